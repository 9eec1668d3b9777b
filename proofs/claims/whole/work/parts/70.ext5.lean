/-! LINEAR EXTENSIONS OF THE CLASS: parts beside one another, parts above one another -/
set_option maxRecDepth 100000 in
set_option maxHeartbeats 4000000 in
theorem b_X7_extensionsOf_0 {z : amZ} {d : Nat} {ce sl mc ms : Nat} {post : amP} {G : amG} {I : amI} {L : amL} (hz : Go z cX7_extensionsOf RX7 7 (some .long) d mc ms post) (hce : ce ≤ mc ∧ sl ≤ ms) (hG : Lay G) (hd : 8 ≤ d) {v1 : Int32} {v2 : Int32} (h : (((q_bc v1) < (2 : Int32)) → post (some (.long (1 : Int64))) G I L) ∧ ((¬ (q_bc v1) < (2 : Int32)) → ((v2 ≤ (16 : Int32)) → (szOk I 3) ∧ (((cnT I v1 (1 : Int32) 16) = v1) → (szOk I 3) ∧ (((cnT I v1 (0 : Int32) 16) = v1) → ∃ (dq7 mcq7 msq7 : Nat) (postq7 : amP), Nat.ble (dq7 + 1) d = true ∧ (ce + mcq7 ≤ mc ∧ sl + msq7 ≤ ms) ∧ Mx (zL z) (zD z) (zB z) yX7_extensionsByDownSets cX7_extensionsByDownSets 6 (some .long) dq7 mcq7 msq7 [.ref ((zB z).size + 56), .int v1] G I L postq7 ∧ ∀ (roq7 : Option Value) (Gq7 : amG) (Iq7 : amI) (Lq7 : amL), postq7 roq7 Gq7 Iq7 Lq7 → ∃ (rq7 : Int64), roq7 = some (.long rq7) ∧ Lay Gq7 ∧ post (some (.long rq7)) Gq7 Iq7 Lq7) ∧ ((¬ (cnT I v1 (0 : Int32) 16) = v1) → ∃ (dq8 mcq8 msq8 : Nat) (postq8 : amP), Nat.ble (dq8 + 1) d = true ∧ (ce + mcq8 ≤ mc ∧ sl + msq8 ≤ ms) ∧ Mx (zL z) (zD z) (zB z) yX7_extensionsOf cX7_extensionsOf 7 (some .long) dq8 mcq8 msq8 [.ref ((zB z).size + 56), .int (cnT I v1 (0 : Int32) 16), .int (v2 + (1 : Int32))] G I L postq8 ∧ ∀ (roq8 : Option Value) (Gq8 : amG) (Iq8 : amI) (Lq8 : amL), postq8 roq8 Gq8 Iq8 Lq8 → ∃ (rq8 : Int64), roq8 = some (.long rq8) ∧ Lay Gq8 ∧ ∃ (dq9 mcq9 msq9 : Nat) (postq9 : amP), Nat.ble (dq9 + 1) d = true ∧ (ce + mcq8 + mcq9 ≤ mc ∧ sl + msq8 + msq9 ≤ ms) ∧ Mx (zL z) (zD z) (zB z) yX7_extensionsOf cX7_extensionsOf 7 (some .long) dq9 mcq9 msq9 [.ref ((zB z).size + 56), .int (v1 &&& ((cnT I v1 (0 : Int32) 16) ^^^ (-1 : Int32))), .int (v2 + (1 : Int32))] Gq8 Iq8 Lq8 postq9 ∧ ∀ (roq9 : Option Value) (Gq9 : amG) (Iq9 : amI) (Lq9 : amL), postq9 roq9 Gq9 Iq9 Lq9 → ∃ (rq9 : Int64), roq9 = some (.long rq9) ∧ Lay Gq9 ∧ post (some (.long (rq8 * rq9))) Gq9 Iq9 Lq9)) ∧ ((¬ (cnT I v1 (1 : Int32) 16) = v1) → ∃ (dq10 mcq10 msq10 : Nat) (postq10 : amP), Nat.ble (dq10 + 1) d = true ∧ (ce + mcq10 ≤ mc ∧ sl + msq10 ≤ ms) ∧ Mx (zL z) (zD z) (zB z) yX7_fillChoices cX7_fillChoices 4 none dq10 mcq10 msq10 [.ref ((zB z).size + 56), .int (q_bc v1)] G I L postq10 ∧ ∀ (roq10 : Option Value) (Gq10 : amG) (Iq10 : amI) (Lq10 : amL), postq10 roq10 Gq10 Iq10 Lq10 → roq10 = none ∧ Lay Gq10 ∧ vp_in (q_bc (cnT I v1 (1 : Int32) 16)) 17 ∧ ∃ (dq12 mcq12 msq12 : Nat) (postq12 : amP), Nat.ble (dq12 + 1) d = true ∧ (ce + mcq10 + mcq12 ≤ mc ∧ sl + msq10 + msq12 ≤ ms) ∧ Mx (zL z) (zD z) (zB z) yX7_extensionsOf cX7_extensionsOf 7 (some .long) dq12 mcq12 msq12 [.ref ((zB z).size + 56), .int (cnT I v1 (1 : Int32) 16), .int (v2 + (1 : Int32))] Gq10 Iq10 Lq10 postq12 ∧ ∀ (roq12 : Option Value) (Gq12 : amG) (Iq12 : amI) (Lq12 : amL), postq12 roq12 Gq12 Iq12 Lq12 → ∃ (rq12 : Int64), roq12 = some (.long rq12) ∧ Lay Gq12 ∧ ∃ (dq13 mcq13 msq13 : Nat) (postq13 : amP), Nat.ble (dq13 + 1) d = true ∧ (ce + mcq10 + mcq12 + mcq13 ≤ mc ∧ sl + msq10 + msq12 + msq13 ≤ ms) ∧ Mx (zL z) (zD z) (zB z) yX7_extensionsOf cX7_extensionsOf 7 (some .long) dq13 mcq13 msq13 [.ref ((zB z).size + 56), .int (v1 &&& ((cnT I v1 (1 : Int32) 16) ^^^ (-1 : Int32))), .int (v2 + (1 : Int32))] Gq12 Iq12 Lq12 postq13 ∧ ∀ (roq13 : Option Value) (Gq13 : amG) (Iq13 : amI) (Lq13 : amL), postq13 roq13 Gq13 Iq13 Lq13 → ∃ (rq13 : Int64), roq13 = some (.long rq13) ∧ Lay Gq13 ∧ post (some (.long (((Lq10 58 (q_bc (cnT I v1 (1 : Int32) 16)).toNatClampNeg) * rq12) * rq13))) Gq13 Iq13 Lq13)) ∧ ((¬ v2 ≤ (16 : Int32)) → post (some (.long (1 : Int64))) G I L))) : Wx z ce sl 0 [(0, .ref ((zB z).size + 56)), (1, .int v1), (2, .int v2)] [] G I L := by
  have hz1 := hz.1
  refine am_iload_n hz1 dX7_extensionsOf_0 1 rfl rfl ?_
  refine am_cSf hz ct_X7_64 [.int v1] [] (c_J6_bitCount_0f7a4 hG v1 ) rfl rfl (ble_d hd rfl) hce (Nat.le_of_ble_eq_true rfl) dX7_extensionsOf_1 ?_
  refine am_istore_n (lv' := [(3, .int (q_bc v1)), (0, .ref ((zB z).size + 56)), (1, .int v1), (2, .int v2)]) hz1 dX7_extensionsOf_4 rfl rfl rfl ?_
  refine am_iload_n hz1 dX7_extensionsOf_5 0 rfl rfl ?_
  refine am_iconst (v := 2) hz1 dX7_extensionsOf_6 (by decide) ?_
  refine am_icmp_lt (tgt := 16) hz1 dX7_extensionsOf_7 (by decide) (fun c1 => ?_) (fun c1 => ?_)
  · replace h := h.1 c1
    refine am_lconst (v := 1) hz1 dX7_extensionsOf_16 (by decide) ?_
    exact am_widen hce.1 hce.2 (am_lreturn hz dX7_extensionsOf_17 h)
  · replace h := h.2 c1
    refine am_iload_n hz1 dX7_extensionsOf_10 3 rfl rfl ?_
    refine am_bipush (v := 16) hz1 dX7_extensionsOf_11 (by decide) ?_
    refine am_icmp_le (tgt := 18) hz1 dX7_extensionsOf_13 (by decide) (fun c2 => ?_) (fun c2 => ?_)
    · replace h := h.1 c2
      refine am_aload_n hz1 dX7_extensionsOf_18 1 rfl rfl ?_
      refine am_iload_n hz1 dX7_extensionsOf_19 2 rfl rfl ?_
      refine am_iconst (v := 1) hz1 dX7_extensionsOf_20 (by decide) ?_
      obtain ⟨g3, h⟩ := h
      refine am_cVf hz cv_X7_105 [.int v1, .int 1] [] (c_X7_connected hG v1 (1 : Int32) g3) (ln_56 hG) (lk_56 hG) rfl rfl (ble_d hd rfl) hce (Nat.le_of_ble_eq_true rfl) dX7_extensionsOf_21 ?_
      refine am_istore (lv' := [(4, .int (cnT I v1 (1 : Int32) 16)), (3, .int (q_bc v1)), (0, .ref ((zB z).size + 56)), (1, .int v1), (2, .int v2)]) hz1 dX7_extensionsOf_24 rfl rfl ?_
      refine am_iload hz1 dX7_extensionsOf_26 0 rfl ?_
      refine am_iload_n hz1 dX7_extensionsOf_28 3 rfl rfl ?_
      refine am_icmp_eq (tgt := 76) hz1 dX7_extensionsOf_29 (by decide) (fun c4 => ?_) (fun c4 => ?_)
      · replace h := h.1 c4
        refine am_aload_n hz1 dX7_extensionsOf_76 2 rfl rfl ?_
        refine am_iload_n hz1 dX7_extensionsOf_77 3 rfl rfl ?_
        refine am_iconst (v := 0) hz1 dX7_extensionsOf_78 (by decide) ?_
        obtain ⟨g5, h⟩ := h
        refine am_cVf hz cv_X7_105 [.int v1, .int 0] [] (c_X7_connected hG v1 (0 : Int32) g5) (ln_56 hG) (lk_56 hG) rfl rfl (ble_d hd rfl) hce (Nat.le_of_ble_eq_true rfl) dX7_extensionsOf_79 ?_
        refine am_istore (lv' := [(4, .int (cnT I v1 (0 : Int32) 16)), (3, .int (q_bc v1)), (0, .ref ((zB z).size + 56)), (1, .int v1), (2, .int v2)]) hz1 dX7_extensionsOf_82 rfl rfl ?_
        refine am_iload hz1 dX7_extensionsOf_84 0 rfl ?_
        refine am_iload_n hz1 dX7_extensionsOf_86 3 rfl rfl ?_
        refine am_icmp_eq (tgt := 114) hz1 dX7_extensionsOf_87 (by decide) (fun c6 => ?_) (fun c6 => ?_)
        · replace h := h.1 c6
          refine am_aload_n hz1 dX7_extensionsOf_114 2 rfl rfl ?_
          refine am_iload_n hz1 dX7_extensionsOf_115 3 rfl rfl ?_
          obtain ⟨dq7, mcq7, msq7, postq7, hdq7, hcq7, hMq7, h⟩ := h
          refine am_callV hz1 cv_X7_109 [.int v1] [] hMq7 (ln_56 hG) (lk_56 hG) rfl rfl (hz.fr hdq7) (hz.lo hdq7) (by rw [hz.2.1]; exact hcq7) (Nat.le_of_ble_eq_true rfl) dX7_extensionsOf_116 (fun roq7 Gq7 Iq7 Lq7 hpq7 => ?_)
          obtain ⟨rq7, rfl, hGq7, h⟩ := h roq7 Gq7 Iq7 Lq7 hpq7
          exact am_widen hcq7.1 hcq7.2 (am_lreturn hz dX7_extensionsOf_119 h)
        · replace h := h.2 c6
          refine am_aload_n hz1 dX7_extensionsOf_90 2 rfl rfl ?_
          refine am_iload hz1 dX7_extensionsOf_91 0 rfl ?_
          refine am_iload_n hz1 dX7_extensionsOf_93 4 rfl rfl ?_
          refine am_iconst (v := 1) hz1 dX7_extensionsOf_94 (by decide) ?_
          refine am_iadd hz1 dX7_extensionsOf_95 ?_
          obtain ⟨dq8, mcq8, msq8, postq8, hdq8, hcq8, hMq8, h⟩ := h
          refine am_callV hz1 cv_X7_97 [.int (cnT I v1 (0 : Int32) 16), .int (v2 + (1 : Int32))] [] hMq8 (ln_56 hG) (lk_56 hG) rfl rfl (hz.fr hdq8) (hz.lo hdq8) (by rw [hz.2.1]; exact hcq8) (Nat.le_of_ble_eq_true rfl) dX7_extensionsOf_96 (fun roq8 Gq8 Iq8 Lq8 hpq8 => ?_)
          obtain ⟨rq8, rfl, hGq8, h⟩ := h roq8 Gq8 Iq8 Lq8 hpq8
          refine am_aload_n hz1 dX7_extensionsOf_99 2 rfl rfl ?_
          refine am_iload_n hz1 dX7_extensionsOf_100 3 rfl rfl ?_
          refine am_iload hz1 dX7_extensionsOf_101 0 rfl ?_
          refine am_iconst (v := (-1)) hz1 dX7_extensionsOf_103 (by decide) ?_
          refine am_ixor hz1 dX7_extensionsOf_104 ?_
          refine am_iand hz1 dX7_extensionsOf_105 ?_
          refine am_iload_n hz1 dX7_extensionsOf_106 4 rfl rfl ?_
          refine am_iconst (v := 1) hz1 dX7_extensionsOf_107 (by decide) ?_
          refine am_iadd hz1 dX7_extensionsOf_108 ?_
          obtain ⟨dq9, mcq9, msq9, postq9, hdq9, hcq9, hMq9, h⟩ := h
          refine am_callV hz1 cv_X7_97 [.int (v1 &&& ((cnT I v1 (0 : Int32) 16) ^^^ (-1 : Int32))), .int (v2 + (1 : Int32))] [.long rq8] hMq9 (ln_56 hGq8) (lk_56 hGq8) rfl rfl (hz.fr hdq9) (hz.lo hdq9) (by rw [hz.2.1]; exact hcq9) (Nat.le_of_ble_eq_true rfl) dX7_extensionsOf_109 (fun roq9 Gq9 Iq9 Lq9 hpq9 => ?_)
          obtain ⟨rq9, rfl, hGq9, h⟩ := h roq9 Gq9 Iq9 Lq9 hpq9
          refine am_lmul hz1 dX7_extensionsOf_112 ?_
          exact am_widen hcq9.1 hcq9.2 (am_lreturn hz dX7_extensionsOf_113 h)
      · replace h := h.2 c4
        refine am_aload_n hz1 dX7_extensionsOf_32 2 rfl rfl ?_
        refine am_iload_n hz1 dX7_extensionsOf_33 1 rfl rfl ?_
        obtain ⟨dq10, mcq10, msq10, postq10, hdq10, hcq10, hMq10, h⟩ := h
        refine am_callV hz1 cv_X7_69 [.int (q_bc v1)] [] hMq10 (ln_56 hG) (lk_56 hG) rfl rfl (hz.fr hdq10) (hz.lo hdq10) (by rw [hz.2.1]; exact hcq10) (Nat.le_of_ble_eq_true rfl) dX7_extensionsOf_34 (fun roq10 Gq10 Iq10 Lq10 hpq10 => ?_)
        obtain ⟨rfl, hGq10, h⟩ := h roq10 Gq10 Iq10 Lq10 hpq10
        refine am_aload_n hz1 dX7_extensionsOf_37 2 rfl rfl ?_
        refine am_getR hz1 fl_X7_15 (ln_56 hGq10) (lk_56 hGq10) (lr_56_2 hGq10) rfl dX7_extensionsOf_38 ?_
        refine am_iload hz1 dX7_extensionsOf_41 0 rfl ?_
        refine am_cSf hz ct_X7_64 [.int (cnT I v1 (1 : Int32) 16)] [.ref ((zB z).size + 58)] (c_J6_bitCount_0f7a4 hGq10 (cnT I v1 (1 : Int32) 16) ) rfl rfl (ble_d hd rfl) hcq10 (Nat.le_of_ble_eq_true rfl) dX7_extensionsOf_43 ?_
        obtain ⟨g11, h⟩ := h
        refine am_lald hz1 (ln_58 hGq10) (lk_58 hGq10) (by rw [(ll_58 hGq10)]; exact g11) dX7_extensionsOf_46 ?_
        refine am_lstore (lv' := [(5, .long (Lq10 58 (q_bc (cnT I v1 (1 : Int32) 16)).toNatClampNeg)), (4, .int (cnT I v1 (1 : Int32) 16)), (3, .int (q_bc v1)), (0, .ref ((zB z).size + 56)), (1, .int v1), (2, .int v2)]) hz1 dX7_extensionsOf_47 rfl rfl ?_
        refine am_lload hz1 dX7_extensionsOf_49 0 rfl ?_
        refine am_aload_n hz1 dX7_extensionsOf_51 3 rfl rfl ?_
        refine am_iload hz1 dX7_extensionsOf_52 1 rfl ?_
        refine am_iload_n hz1 dX7_extensionsOf_54 5 rfl rfl ?_
        refine am_iconst (v := 1) hz1 dX7_extensionsOf_55 (by decide) ?_
        refine am_iadd hz1 dX7_extensionsOf_56 ?_
        obtain ⟨dq12, mcq12, msq12, postq12, hdq12, hcq12, hMq12, h⟩ := h
        refine am_callV hz1 cv_X7_97 [.int (cnT I v1 (1 : Int32) 16), .int (v2 + (1 : Int32))] [.long (Lq10 58 (q_bc (cnT I v1 (1 : Int32) 16)).toNatClampNeg)] hMq12 (ln_56 hGq10) (lk_56 hGq10) rfl rfl (hz.fr hdq12) (hz.lo hdq12) (by rw [hz.2.1]; exact hcq12) (Nat.le_of_ble_eq_true rfl) dX7_extensionsOf_57 (fun roq12 Gq12 Iq12 Lq12 hpq12 => ?_)
        obtain ⟨rq12, rfl, hGq12, h⟩ := h roq12 Gq12 Iq12 Lq12 hpq12
        refine am_lmul hz1 dX7_extensionsOf_60 ?_
        refine am_aload_n hz1 dX7_extensionsOf_61 3 rfl rfl ?_
        refine am_iload_n hz1 dX7_extensionsOf_62 4 rfl rfl ?_
        refine am_iload hz1 dX7_extensionsOf_63 1 rfl ?_
        refine am_iconst (v := (-1)) hz1 dX7_extensionsOf_65 (by decide) ?_
        refine am_ixor hz1 dX7_extensionsOf_66 ?_
        refine am_iand hz1 dX7_extensionsOf_67 ?_
        refine am_iload_n hz1 dX7_extensionsOf_68 5 rfl rfl ?_
        refine am_iconst (v := 1) hz1 dX7_extensionsOf_69 (by decide) ?_
        refine am_iadd hz1 dX7_extensionsOf_70 ?_
        obtain ⟨dq13, mcq13, msq13, postq13, hdq13, hcq13, hMq13, h⟩ := h
        refine am_callV hz1 cv_X7_97 [.int (v1 &&& ((cnT I v1 (1 : Int32) 16) ^^^ (-1 : Int32))), .int (v2 + (1 : Int32))] [.long ((Lq10 58 (q_bc (cnT I v1 (1 : Int32) 16)).toNatClampNeg) * rq12)] hMq13 (ln_56 hGq12) (lk_56 hGq12) rfl rfl (hz.fr hdq13) (hz.lo hdq13) (by rw [hz.2.1]; exact hcq13) (Nat.le_of_ble_eq_true rfl) dX7_extensionsOf_71 (fun roq13 Gq13 Iq13 Lq13 hpq13 => ?_)
        obtain ⟨rq13, rfl, hGq13, h⟩ := h roq13 Gq13 Iq13 Lq13 hpq13
        refine am_lmul hz1 dX7_extensionsOf_74 ?_
        exact am_widen hcq13.1 hcq13.2 (am_lreturn hz dX7_extensionsOf_75 h)
    · replace h := h.2 c2
      refine am_lconst (v := 1) hz1 dX7_extensionsOf_16 (by decide) ?_
      exact am_widen hce.1 hce.2 (am_lreturn hz dX7_extensionsOf_17 h)
set_option maxRecDepth 100000 in
set_option maxHeartbeats 4000000 in
theorem c_X7_extensionsOf {n : Nat} {A : Nat → Int32} : ∀ (m : Nat) (s : Int32) (len : Nat), (∀ i, i < 32 → bt s i = true → i < n) → ct (bt s) n ≤ m → wO len → n ≤ 16 → ∃ len1, len ≤ len1 ∧ wO len1 ∧ ∀ (l : Launch) (D : va_G) (B : Heap) (G : amG) (I : amI) (L : amL) (wp dp d : Nat), Lay G → OI I 3 n A → WY G wp len → dp + m ≤ 16 → 8 + m ≤ d →
    Mx l D B yX7_extensionsOf cX7_extensionsOf 7 (some .long) d (2 * (len1 - len)) (2 * (len1 - len)) [.ref (B.size + 56), .int s, .int (nI dp)] G I L (fun r G1 I1 L1 => r = some (.long (eF n A (ct (bt s) n) (bt s))) ∧ XF G I L wp len1 G1 I1 L1) := by
  intro m
  induction m with
  | zero =>
    intro s len hs hm hl h16
    refine ⟨len, Nat.le_refl _, hl, fun l D B G I L wp dp d hG hO hw hdp hd => ?_⟩
    refine Mx.of (by decide) rfl rfl (fun z e1 e2 e3 hz => ?_)
    subst e1; subst e2; subst e3
    have h0 : ct (bt s) n = 0 := by omega
    refine b_X7_extensionsOf_0 hz ⟨Nat.zero_le _, Nat.zero_le _⟩ hG (by omega) ⟨fun _ => ⟨by rw [h0, eF], hG, gX.rfl, fun _ _ _ => rfl, fun _ _ _ _ => rfl, wp, hw, Or.inl rfl⟩, fun w => absurd ?_ w⟩
    rw [bc_ct h16 hs, h0]
    decide
  | succ m ih =>
    intro s len hs hm hl h16
    by_cases hP : PO n A
    case neg => exact ⟨len, Nat.le_refl _, hl, fun l D B G I L wp dp d hG hO => absurd hO.2.2.2.2.2.1 hP⟩
    have hbc := bc_ct h16 hs
    have hc16 := Nat.le_trans (ct_le (bt s) n) h16
    by_cases h2 : ct (bt s) n < 2
    · refine ⟨len, Nat.le_refl _, hl, fun l D B G I L wp dp d hG hO hw hdp hd => ?_⟩
      refine Mx.of (by decide) rfl rfl (fun z e1 e2 e3 hz => ?_)
      subst e1; subst e2; subst e3
      refine b_X7_extensionsOf_0 hz ⟨Nat.zero_le _, Nat.zero_le _⟩ hG (by omega) ⟨fun _ => ⟨?_, hG, gX.rfl, fun _ _ _ => rfl, fun _ _ _ _ => rfl, wp, hw, Or.inl rfl⟩, fun w => absurd ?_ w⟩
      · rcases Nat.eq_zero_or_pos (ct (bt s) n) with h0 | h0
        · rw [h0, eF]
        · rw [show ct (bt s) n = 1 by omega, eF_1 hP (by omega)]
      · rw [hbc]; exact nI_lt h2 (by decide)
    -- which case it is does not hang on the memory
    by_cases hex : ∃ I0 : amI, OI I0 3 n A
    case neg => exact ⟨len, Nat.le_refl _, hl, fun l D B G I L wp dp d hG hO => absurd ⟨I, hO⟩ hex⟩
    obtain ⟨I0, hO0⟩ := hex
    have same : ∀ (I : amI) (b : Int32), OI I 3 n A → cnT I s b 16 = cnT I0 s b 16 := fun I b hO => cnT_I hO hO0 16
    by_cases c1 : cnT I0 s 1 16 = s
    · by_cases c0 : cnT I0 s 0 16 = s
      · refine ⟨wM len (ct (bt s) n), wM_le, wM_O hl hc16, fun l D B G I L wp dp d hG hO hw hdp hd => ?_⟩
        refine Mx.of (by decide) rfl rfl (fun z e1 e2 e3 hz => ?_)
        subst e1; subst e2; subst e3
        refine b_X7_extensionsOf_0 hz ⟨Nat.zero_le _, Nat.zero_le _⟩ hG (by omega) ⟨fun w => absurd w ?_, fun _ => ⟨fun _ => ⟨hO.sz, fun _ => ⟨hO.sz, fun _ => ?_, fun w => absurd ?_ w⟩, fun w => absurd ?_ w⟩, fun w => absurd (nI_le (a := dp) (b := 16) (by omega) (by decide)) w⟩⟩
        · rw [hbc]; exact fun w => h2 ((nI_ltI (b := 2) (by omega) (by decide)).mp w)
        · exact ⟨2, _, _, _, ble_d (show 3 ≤ d by omega) rfl, ⟨by rw [Nat.zero_add]; exact Nat.le_refl _, by rw [Nat.zero_add]; exact Nat.le_refl _⟩, c_X7_extensionsByDownSets hG hO hs hw hl, fun ro G1 I1 L1 ⟨a1, a2⟩ => ⟨_, a1, a2.1, rfl, a2⟩⟩
        · rw [same I 0 hO]; exact c0
        · rw [same I 1 hO]; exact c1
      · obtain ⟨p1, p2', p3, p4, p5⟩ := cnT_pt h16 hs (by omega) c0
        have hin := cnT_in (I := I0) (b := 0) hs 16
        obtain ⟨l1, l1a, l1b, l1c⟩ := ih (cnT I0 s 0 16) len (fun i hi q => hs i hi (hin i hi q)) (by omega) hl h16
        obtain ⟨l2, l2a, l2b, l2c⟩ := ih (s &&& (cnT I0 s 0 16 ^^^ (-1))) l1 (sub_in hs) (by omega) l1b h16
        have hval := ext_cn0 hO0 hs (by omega) c0
        refine ⟨l2, Nat.le_trans l1a l2a, l2b, fun l D B G I L wp dp d hG hO hw hdp hd => ?_⟩
        refine Mx.of (by decide) rfl rfl (fun z e1 e2 e3 hz => ?_)
        subst e1; subst e2; subst e3
        refine b_X7_extensionsOf_0 hz ⟨Nat.zero_le _, Nat.zero_le _⟩ hG (by omega) ⟨fun w => absurd w ?_, fun _ => ⟨fun _ => ⟨hO.sz, fun _ => ⟨hO.sz, fun w => absurd w ?_, fun _ => ?_⟩, fun w => absurd ?_ w⟩, fun w => absurd (nI_le (a := dp) (b := 16) (by omega) (by decide)) w⟩⟩
        · rw [hbc]; exact fun w => h2 ((nI_ltI (b := 2) (by omega) (by decide)).mp w)
        · rw [same I 0 hO]; exact c0
        · rw [same I 0 hO, nI_1]
          have hd1 : Nat.ble (d - 1 + 1) d = true := by rw [show d - 1 + 1 = d by omega]; exact Nat.ble_self_eq_true d
          refine ⟨d - 1, _, _, _, hd1, ⟨by omega, by omega⟩, l1c _ _ _ G I L wp (dp + 1) (d - 1) hG hO hw (by omega) (by omega), fun ro2 G2 I2 L2 ⟨a1, a2⟩ => ⟨_, a1, a2.1, ?_⟩⟩
          obtain ⟨w1, hw1, _⟩ := a2.2.2.2.2
          have hO2 := OI_X hG hO a2.2.2.1
          refine ⟨d - 1, _, _, _, hd1, ⟨by omega, by omega⟩, l2c _ _ _ G2 I2 L2 w1 (dp + 1) (d - 1) a2.1 hO2 hw1 (by omega) (by omega), fun ro3 G3 I3 L3 ⟨b1, b2⟩ => ⟨_, b1, b2.1, ?_⟩⟩
          exact ⟨by rw [hval], a2.trans hw1 b2⟩
        · rw [same I 1 hO]; exact c1
    · obtain ⟨p1, p2', p3, p4, p5⟩ := cnT_pt h16 hs (by omega) c1
      have hin := cnT_in (I := I0) (b := 1) hs 16
      obtain ⟨l1, l1a, l1b, l1c⟩ := ih (cnT I0 s 1 16) len (fun i hi q => hs i hi (hin i hi q)) (by omega) hl h16
      obtain ⟨l2, l2a, l2b, l2c⟩ := ih (s &&& (cnT I0 s 1 16 ^^^ (-1))) l1 (sub_in hs) (by omega) l1b h16
      have hval := ext_cn1 hO0 hs (by omega) (by decide) c1
      have hbp := bc_ct h16 (fun i hi q => hs i hi (hin i hi q))
      have hcp := Nat.le_trans (ct_le (bt (cnT I0 s 1 16)) n) h16
      refine ⟨l2, Nat.le_trans l1a l2a, l2b, fun l D B G I L wp dp d hG hO hw hdp hd => ?_⟩
      refine Mx.of (by decide) rfl rfl (fun z e1 e2 e3 hz => ?_)
      subst e1; subst e2; subst e3
      refine b_X7_extensionsOf_0 hz ⟨Nat.zero_le _, Nat.zero_le _⟩ hG (by omega) ⟨fun w => absurd w ?_, fun _ => ⟨fun _ => ⟨hO.sz, fun w => absurd w ?_, fun _ => ?_⟩, fun w => absurd (nI_le (a := dp) (b := 16) (by omega) (by decide)) w⟩⟩
      · rw [hbc]; exact fun w => h2 ((nI_ltI (b := 2) (by omega) (by decide)).mp w)
      · rw [same I 1 hO]; exact c1
      · rw [same I 1 hO, nI_1, hbc, hbp, cl_nI (by omega)]
        have hd1 : Nat.ble (d - 1 + 1) d = true := by rw [show d - 1 + 1 = d by omega]; exact Nat.ble_self_eq_true d
        refine ⟨1, 0, 0, _, ble_d (show 2 ≤ d by omega) rfl, ⟨by omega, by omega⟩, c_X7_fillChoices hG _ rfl hc16, fun ro1 G1 I1 L1 ⟨f1, f2, f3, f, f4, f5⟩ => ⟨f1, by rw [f2]; exact hG, in_nI (by omega) (by decide), ?_⟩⟩
        rw [f2, f3, f4]
        have hX0 : XF G I L wp len G I (setL L 58 f) := ⟨hG, gX.rfl, fun _ _ _ => rfl, fun q _ h _ => setL_n h, wp, hw, Or.inl rfl⟩
        refine ⟨d - 1, _, _, _, hd1, ⟨by omega, by omega⟩, l1c _ _ _ G I (setL L 58 f) wp (dp + 1) (d - 1) hG hO hw (by omega) (by omega), fun ro2 G2 I2 L2 ⟨a1, a2⟩ => ⟨_, a1, a2.1, ?_⟩⟩
        have a3 := hX0.trans hw a2
        obtain ⟨w1, hw1, _⟩ := a2.2.2.2.2
        have hO2 := OI_X hG hO a2.2.2.1
        refine ⟨d - 1, _, _, _, hd1, ⟨by omega, by omega⟩, l2c _ _ _ G2 I2 L2 w1 (dp + 1) (d - 1) a2.1 hO2 hw1 (by omega) (by omega), fun ro3 G3 I3 L3 ⟨b1, b2⟩ => ⟨_, b1, b2.1, ?_⟩⟩
        refine ⟨?_, a3.trans hw1 b2⟩
        rw [setL_s, f5 _ hcp, hval]
set_option maxRecDepth 100000 in
set_option maxHeartbeats 4000000 in
theorem b_X7_extensions_0 {z : amZ} {ce sl mc ms : Nat} {post : amP} {G : amG} {I : amI} {L : amL} (hz : Go z cX7_extensions RX7 1 (some .long) 41 mc ms post) (hce : ce ≤ mc ∧ sl ≤ ms) (hG : Lay G)  (h : ((¬ (I 56 6) = 0) → post (some (.long (L 56 7))) G I L) ∧ (((I 56 6) = 0) → ∃ (dq2 mcq2 msq2 : Nat) (postq2 : amP), Nat.ble (dq2 + 1) 41 = true ∧ (ce + mcq2 ≤ mc ∧ sl + msq2 ≤ ms) ∧ Mx (zL z) (zD z) (zB z) yX7_extensionsOf cX7_extensionsOf 7 (some .long) dq2 mcq2 msq2 [.ref ((zB z).size + 56), .int (q_all I 3), .int 0] G I L postq2 ∧ ∀ (roq2 : Option Value) (Gq2 : amG) (Iq2 : amI) (Lq2 : amL), postq2 roq2 Gq2 Iq2 Lq2 → ∃ (rq2 : Int64), roq2 = some (.long rq2) ∧ Lay Gq2 ∧ post (some (.long ((setL Lq2 56 (vp_updL (Lq2 56) 7 rq2)) 56 7))) Gq2 (setI Iq2 56 (upd (Iq2 56) 6 (1 : Int32))) (setL Lq2 56 (vp_updL (Lq2 56) 7 rq2)))) : Wx z ce sl 0 [(0, .ref ((zB z).size + 56))] [] G I L := by
  have hz1 := hz.1
  refine am_aload_n hz1 dX7_extensions_0 0 rfl rfl ?_
  refine am_getI hz1 fl_X7_33 (ln_56 hG) (lk_56 hG) rfl dX7_extensions_1 ?_
  refine am_if_ne (tgt := 28) hz1 dX7_extensions_4 (by decide) (fun c1 => ?_) (fun c1 => ?_)
  · replace h := h.1 c1
    refine am_aload_n hz1 dX7_extensions_28 0 rfl rfl ?_
    refine am_getL hz1 fl_X7_101 (ln_56 hG) (lk_56 hG) rfl dX7_extensions_29 ?_
    exact am_widen hce.1 hce.2 (am_lreturn hz dX7_extensions_32 h)
  · replace h := h.2 c1
    refine am_aload_n hz1 dX7_extensions_7 0 rfl rfl ?_
    refine am_aload_n hz1 dX7_extensions_8 0 rfl rfl ?_
    refine am_aload_n hz1 dX7_extensions_9 0 rfl rfl ?_
    refine am_getR hz1 fl_X7_25 (ln_56 hG) (lk_56 hG) (lr_56_0 hG) rfl dX7_extensions_10 ?_
    refine am_cVf hz cv_X7_52 [] [.ref ((zB z).size + 56), .ref ((zB z).size + 56)] (c_X4_all hG isO_3  ) (ln_3 hG) (lk_3 hG) rfl rfl rfl hce (Nat.le_of_ble_eq_true rfl) dX7_extensions_13 ?_
    refine am_iconst (v := 0) hz1 dX7_extensions_16 (by decide) ?_
    obtain ⟨dq2, mcq2, msq2, postq2, hdq2, hcq2, hMq2, h⟩ := h
    refine am_callV hz1 cv_X7_97 [.int (q_all I 3), .int 0] [.ref ((zB z).size + 56)] hMq2 (ln_56 hG) (lk_56 hG) rfl rfl (hz.fr hdq2) (hz.lo hdq2) (by rw [hz.2.1]; exact hcq2) (Nat.le_of_ble_eq_true rfl) dX7_extensions_17 (fun roq2 Gq2 Iq2 Lq2 hpq2 => ?_)
    obtain ⟨rq2, rfl, hGq2, h⟩ := h roq2 Gq2 Iq2 Lq2 hpq2
    refine am_putL hz1 fl_X7_101 (ln_56 hGq2) (lk_56 hGq2) rfl rfl (fun _ => rfl) dX7_extensions_20 ?_
    refine am_aload_n hz1 dX7_extensions_23 0 rfl rfl ?_
    refine am_iconst (v := 1) hz1 dX7_extensions_24 (by decide) ?_
    refine am_putI hz1 fl_X7_33 (ln_56 hGq2) (lk_56 hGq2) rfl rfl (fun _ => rfl) dX7_extensions_25 ?_
    refine am_aload_n hz1 dX7_extensions_28 0 rfl rfl ?_
    refine am_getL hz1 fl_X7_101 (ln_56 hGq2) (lk_56 hGq2) rfl dX7_extensions_29 ?_
    exact am_widen hcq2.1 hcq2.2 (am_lreturn hz dX7_extensions_32 h)
set_option maxRecDepth 100000 in
set_option maxHeartbeats 4000000 in
theorem c_X7_extensions {n : Nat} {A : Nat → Int32} {len : Nat} (hl : wO len) (h16 : n ≤ 16) : ∃ len1, len ≤ len1 ∧ wO len1 ∧ ∀ (l : Launch) (D : va_G) (B : Heap) (G : amG) (I : amI) (L : amL) (wp : Nat), Lay G → OI I 3 n A → WY G wp len → wp ≠ 56 → (I 56 6 = 0 ∨ L 56 7 = eF n A n (fun _ => true)) →
    Mx l D B yX7_extensions cX7_extensions 1 (some .long) 41 (2 * (len1 - len)) (2 * (len1 - len)) [.ref (B.size + 56)] G I L (fun r G1 I1 L1 => r = some (.long (eF n A n (fun _ => true))) ∧ Lay G1 ∧ gX G G1 ∧ (∀ q, q < gN G → q ≠ 59 → q ≠ 56 → I1 q = I q) ∧ (∀ k, k ≠ 6 → I1 56 k = I 56 k) ∧ (∀ q, q < gN G → q ≠ 58 → q ≠ 56 → q ≠ wp → L1 q = L q) ∧ (L1 56 7 = eF n A n (fun _ => true)) ∧ ∃ wp1 len2, WY G1 wp1 len2 ∧ len ≤ len2 ∧ len2 ≤ len1 ∧ wO len2 ∧ (wp1 = wp ∨ gN G ≤ wp1)) := by
  have hca : ct (bt (allS n)) n = n := by rw [ct_cong (all_bt h16), ct_all (n := n)]
  obtain ⟨l1, l1a, l1b, l1c⟩ := c_X7_extensionsOf (n := n) (A := A) 16 (allS n) len (all_in h16) (by omega) hl h16
  refine ⟨l1, l1a, l1b, fun l D B G I L wp hG hO hw h56 hk => ?_⟩
  refine Mx.of (by decide) rfl rfl (fun z e1 e2 e3 hz => ?_)
  subst e1; subst e2; subst e3
  refine b_X7_extensions_0 hz ⟨Nat.zero_le _, Nat.zero_le _⟩ hG ⟨fun h => ?_, fun h => ?_⟩
  · rcases hk with hk | hk
    · exact absurd hk h
    · exact ⟨by rw [hk], hG, gX.rfl, fun _ _ _ _ => rfl, fun _ _ => rfl, fun _ _ _ _ _ => rfl, hk, wp, len, hw, Nat.le_refl _, l1a, hl, Or.inl rfl⟩
  · rw [hO.all]
    refine ⟨40, _, _, _, rfl, ⟨by omega, by omega⟩, l1c _ _ _ G I L wp 0 40 hG hO hw (by omega) (by omega), fun ro G2 I2 L2 ⟨a1, a2⟩ => ⟨_, a1, a2.1, ?_⟩⟩
    have hv : eF n A (ct (bt (allS n)) n) (bt (allS n)) = eF n A n (fun _ => true) := by rw [hca]; exact eF_c n (fun x hx => all_bt h16 x hx)
    obtain ⟨b1, b2, b3, b4, w1, b5, b6⟩ := a2
    have h85 := hG.1
    rw [hv, setL_s, updL_s]
    refine ⟨rfl, b1, b2, fun q hq h1 h2 => by rw [setI_n h2]; exact b3 q hq h1, fun k hk => ?_, fun q hq h1 h2 h3 => by rw [setL_n h2]; exact b4 q hq h1 h3, rfl, w1, l1, b5, l1a, Nat.le_refl _, l1b, b6⟩
    rw [setI_s]
    show upd (I2 56) 6 1 k = _
    rw [upd_n hk, b3 56 (by omega) (by decide)]
