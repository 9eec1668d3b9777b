/-! STRING CONSTANTS: length and charAt of the five words -/
abbrev adK (D : va_G) (i : Nat) : Nat := D.2 100 i
abbrev adV (D : va_G) (i : Nat) : Nat := D.2 101 i
def wL (i : Nat) : Nat := lenW.getD i 0
def wB (i k : Nat) : Int32 := (bytW.getD i []).getD k 0
theorem fl_J0_9 : Cond.fieldLink "java/lang/String" 9 "java/lang/String" "value" "[B" ∈ TT := tt_of 1973 (by decide +kernel) rfl
theorem fl_J0_15 : Cond.fieldLink "java/lang/String" 15 "java/lang/String" "coder" "B" ∈ TT := tt_of 1974 (by decide +kernel) rfl
theorem fl_J0_38 : Cond.fieldLink "java/lang/String" 38 "java/lang/String" "COMPACT_STRINGS" "Z" ∈ TT := tt_of 557 (by decide +kernel) rfl
theorem fl_J0_1053 : Cond.fieldLink "java/lang/String" 1053 "jdk/internal/util/Preconditions" "SIOOBE_FORMATTER" "Ljava/util/function/BiFunction;" ∈ TT := tt_of 573 (by decide +kernel) rfl
/-- a virtual method of a word -/
def CW (own : String) (index : Nat) (y : MethodName) (bytes : ByteArray) (maxL : Nat) (ret : Option FieldType) (n : Nat) : Prop :=
  y.cls = "java/lang/String" ∧ Cond.methodLink own index y ∈ TT ∧ Cond.instanceMethod y ∈ TT ∧ Cond.selects y.cls y y ∈ TT ∧ Cond.initialized y.cls ∈ TT ∧ Cond.code y bytes maxL ret ∈ TT ∧ (y.cls ≠ "java/lang/invoke/MethodHandle" ∧ y.cls ≠ "java/lang/invoke/VarHandle" ∧ (parseMethodDescriptor y.desc).map (fun d => d.parameters.length) = some n) ∧ maxL ≤ 80
theorem cw_X6_85 : CW RX6 85 yJ0_length_8abf5 cJ0_length_8abf5 1 (some .int) 0 := ⟨rfl, tt_of 549 (by decide +kernel) rfl, mi_J0_length_8abf5, me_J0_length_8abf5, mn_J0_length_8abf5, mc_J0_length_8abf5, md_J0_length_8abf5, by decide⟩
theorem cw_X12_144 : CW RX12 144 yJ0_length_8abf5 cJ0_length_8abf5 1 (some .int) 0 := ⟨rfl, tt_of 1449 (by decide +kernel) rfl, mi_J0_length_8abf5, me_J0_length_8abf5, mn_J0_length_8abf5, mc_J0_length_8abf5, md_J0_length_8abf5, by decide⟩
theorem cw_X6_90 : CW RX6 90 yJ0_charAt_5068e cJ0_charAt_5068e 2 (some .char) 1 := ⟨rfl, tt_of 559 (by decide +kernel) rfl, mi_J0_charAt_5068e, me_J0_charAt_5068e, mn_J0_charAt_5068e, mc_J0_charAt_5068e, md_J0_charAt_5068e, by decide⟩
theorem cw_X12_149 : CW RX12 149 yJ0_charAt_5068e cJ0_charAt_5068e 2 (some .char) 1 := ⟨rfl, tt_of 1450 (by decide +kernel) rfl, mi_J0_charAt_5068e, me_J0_charAt_5068e, mn_J0_charAt_5068e, mc_J0_charAt_5068e, md_J0_charAt_5068e, by decide⟩
theorem cw_J0_335 : CW RJ0 335 yJ0_coder_7d493 cJ0_coder_7d493 1 (some .byte) 0 := ⟨rfl, tt_of 553 (by decide +kernel) rfl, mi_J0_coder_7d493, me_J0_coder_7d493, mn_J0_coder_7d493, mc_J0_coder_7d493, md_J0_coder_7d493, by decide⟩
theorem cw_J0_492 : CW RJ0 492 yJ0_isLatin1_aae02 cJ0_isLatin1_aae02 1 (some .boolean) 0 := ⟨rfl, tt_of 563 (by decide +kernel) rfl, mi_J0_isLatin1_aae02, me_J0_isLatin1_aae02, mn_J0_isLatin1_aae02, mc_J0_isLatin1_aae02, md_J0_isLatin1_aae02, by decide⟩
theorem am_below {D : va_G} {B : Heap} {G : amG} {I : amI} {L : amL} {H : Heap} (h : am_W D B G I L H) : ∀ a : Nat, a < B.size → ¬ B.size ≤ a → H[a]? = B[a]? := fun a ha _ => h.2.1 a ha
section AMS
variable {z : amZ} {cc : ByteArray} {own : String} {nL ce sl pc d0 mc0 ms0 : Nat} {lv : List (Nat × Value)} {G : amG} {I : amI} {L : amL} {post0 : amP} {ret0 : Option FieldType} {rest : List Value}
theorem Ok.str (hz : Ok z cc own nL) : am_S (zD z) (zB z) (zS z) := hz.2.2.2.2.2.1.2.2.2.2
theorem am_ldS (hz : Ok z cc own nL) {index i : Nat} {tx : String} (hq : (own, index, tx, i) ∈ ldW) (hd : decode cc pc = .ok (.ldc index, 2)) (kk : Wx z ce sl (pc + 2) lv (.ref (adK (zD z) i) :: rest) G I L) : Wx z ce sl pc lv rest G I L :=
  fun ls H locs h1 h2 h3 => va_ldcS hz.1 hz.2.1 hz.2.2.2.1 (hz.str.2.1 _ hq) hd (kk ls H locs h1 h2 h3)
theorem am_compact (hz : Ok z cc "java/lang/String" nL) (hd : decode cc pc = .ok (.getstatic 38, 3)) (kk : Wx z ce sl (pc + 3) lv (.int 1 :: rest) G I L) : Wx z ce sl pc lv rest G I L := by
  intro ls H locs h1 h2 h3
  obtain ⟨cf, kf, fi, f, a, cell, g1, g2, g3, g4, g5, g6, g7, g8⟩ := (hz.str.2.2.1).kept (am_below h2)
  exact W.gets hz.1 hz.2.1 hz.2.2.2.1 (hz.2.2.2.2.1 _ fl_J0_38) g1 g2 g3 g4 g5 (fun e => by rw [e] at g6; cases g6) g7 rfl hd (kk ls H locs h1 h2 h3)
theorem am_formatter (hz : Ok z cc "java/lang/String" nL) (hd : decode cc pc = .ok (.getstatic 1053, 3)) (kk : ∀ v : Value, (v = .null ∨ ∃ t : Nat, v = .ref t) → Wx z ce sl (pc + 3) lv (v :: rest) G I L) : Wx z ce sl pc lv rest G I L := by
  intro ls H locs h1 h2 h3
  rcases (hz.str.2.2.2).kept (am_below h2) with q | ⟨t, q⟩
  · obtain ⟨cf, kf, fi, f, a, cell, g1, g2, g3, g4, g5, g6, g7, g8⟩ := q
    exact W.gets hz.1 hz.2.1 hz.2.2.2.1 (hz.2.2.2.2.1 _ fl_J0_1053) g1 g2 g3 g4 g5 (fun e => by rw [e] at g6; cases g6) g7 rfl hd (kk .null (Or.inl rfl) ls H locs h1 h2 h3)
  · obtain ⟨cf, kf, fi, f, a, cell, g1, g2, g3, g4, g5, g6, g7, g8⟩ := q
    exact W.gets hz.1 hz.2.1 hz.2.2.2.1 (hz.2.2.2.2.1 _ fl_J0_1053) g1 g2 g3 g4 g5 (fun e => by rw [e] at g6; cases g6) g7 rfl hd (kk (.ref t) (Or.inr ⟨t, rfl⟩) ls H locs h1 h2 h3)
theorem am_coder (hz : Ok z cc "java/lang/String" nL) {i : Nat} (hi : i < 5) (hd : decode cc pc = .ok (.getfield 15, 3)) (kk : Wx z ce sl (pc + 3) lv (.int 0 :: rest) G I L) : Wx z ce sl pc lv (.ref (adK (zD z) i) :: rest) G I L := by
  intro ls H locs h1 h2 h3
  obtain ⟨cf, k, fi, f, cell, g1, g2, g3, g4, g5, g6⟩ := (hz.str.1.1 i hi).2.1.kept (am_below h2)
  exact W.getf hz.1 hz.2.1 hz.2.2.2.1 (hz.2.2.2.2.1 _ fl_J0_15) g1 g2 g3 g4 (v := .int 0) g5 rfl rfl hd (kk ls H locs h1 h2 h3)
theorem am_valueS (hz : Ok z cc "java/lang/String" nL) {i : Nat} (hi : i < 5) (hd : decode cc pc = .ok (.getfield 9, 3)) (kk : Wx z ce sl (pc + 3) lv (.ref (adV (zD z) i) :: rest) G I L) : Wx z ce sl pc lv (.ref (adK (zD z) i) :: rest) G I L := by
  intro ls H locs h1 h2 h3
  obtain ⟨cf, k, fi, f, cell, g1, g2, g3, g4, g5, g6⟩ := (hz.str.1.1 i hi).2.2.1.kept (am_below h2)
  exact W.getf hz.1 hz.2.1 hz.2.2.2.1 (hz.2.2.2.2.1 _ fl_J0_9) g1 g2 g3 g4 (v := .ref (adV (zD z) i)) g5 rfl rfl hd (kk ls H locs h1 h2 h3)
theorem am_lenS (hz : Ok z cc own nL) {i : Nat} (hi : i < 5) (hd : decode cc pc = .ok (.arraylength, 1)) (kk : Wx z ce sl (pc + 1) lv (.int (nI (wL i)) :: rest) G I L) : Wx z ce sl pc lv (.ref (adV (zD z) i) :: rest) G I L := by
  intro ls H locs h1 h2 h3
  obtain ⟨cell, g1, g2, g3, g4, g5, g6, g7⟩ := (hz.str.1.1 i hi).2.2.2.kept (am_below h2)
  exact W.alen (n := nI (wL i)) hz.1 hz.2.1 g1 g2 g5 rfl rfl hd (kk ls H locs h1 h2 h3)
theorem am_baldS (hz : Ok z cc own nL) {i k : Nat} (hi : i < 5) (hk : k < wL i) (hd : decode cc pc = .ok (.baload, 1)) (kk : Wx z ce sl (pc + 1) lv (.int (wB i k) :: rest) G I L) : Wx z ce sl pc lv (.int (nI k) :: .ref (adV (zD z) i) :: rest) G I L := by
  intro ls H locs h1 h2 h3
  obtain ⟨cell, g1, g2, g3, g4, g5, g6, g7⟩ := (hz.str.1.1 i hi).2.2.2.kept (am_below h2)
  have hk31 : k < 2 ^ 31 := by
    have : ∀ i, i < 5 → wL i ≤ 8 := by decide
    have := this i hi
    omega
  have e : (nI k).toNatClampNeg = k := cl_nI hk31
  have hin' : ¬ (nI k < 0 ∨ cell.slots.size ≤ (nI k).toNatClampNeg) := by
    rw [e]
    rintro (q | q)
    · exact nI_pos hk31 q
    · have : wL i ≤ cell.slots.size := g4
      omega
  exact W.bald (v := .int (wB i k)) hz.1 hz.2.1 g1 g2 g3 hin' (by rw [e]; exact g6 k hk) rfl rfl hd (kk ls H locs h1 h2 h3)
theorem am_callW (hz : Go z cc own nL ret0 d0 mc0 ms0 post0) {index i n d maxL : Nat} {y : MethodName} {bytes : ByteArray} {ret : Option FieldType} {ro : Option Value} (cv : CW own index y bytes maxL ret n) (As rest : List Value) {st : List Value}
    (hM : Fx (zL z) (zD z) (zB z) y bytes maxL ret d (.ref (adK (zD z) i) :: As) G I L ro I L) (hi : i < 5)
    (hs : st = As.reverse ++ .ref (adK (zD z) i) :: rest) (hn : As.length = n) (hr : Nat.ble (d + 1) d0 = true) (hR3 : ce ≤ mc0 ∧ sl ≤ ms0) (hc : (rest.map fun v => v.category).sum ≤ 8) (hd : decode cc pc = .ok (.invokevirtual index, 3))
    (kk : Wx z ce sl (pc + 3) lv (ro.toList ++ rest) G I L) : Wx z ce sl pc lv st G I L := by
  intro ls H locs h1 h2 h3
  subst hs
  obtain ⟨c0, c1, c2, c3, c4, c5, c6, c7⟩ := cv
  have hR1 := hz.fr hr
  have hR2 := hz.lo hr
  have hR4 : ce + 0 ≤ (zR z).cells ∧ sl + 0 ≤ (zR z).slots := by rw [hz.2.1]; exact hR3
  obtain ⟨hx, hb, hml, hown, hts, hK, hB⟩ := hz.1
  refine am_run (va_runV (As := As) (rest := rest) (Ts := TT) (nL := nL) (C := y.cls) (n := n) ⟨hx, hb, hml, hown, hts⟩ hM ⟨callB_of n hts (tt_GoodIn c5) rfl rfl rfl (hts _ c4) (hts _ c1) c6 ⟨hR1, by show 8 + (maxL + 11) + 100 * d ≤ _; omega⟩, hts _ c2, hts _ c3⟩ ⟨am_blind, ?_, fun U hU hW => ⟨rfl, by rw [hU]; exact h2, hK.warm hW⟩⟩ rfl hn (h1.1.trans hml) rfl (lv_room hc) hd hR4) h1 h3 (fun r G1 I1 L1 h => by obtain ⟨rfl, rfl, rfl, rfl⟩ := h; exact kk)
  obtain ⟨cell, g1, g2, g3, -⟩ := (hz.1.str.1.1 i hi).1.kept (am_below h2)
  exact ⟨cell, g1, g2, by rw [c0]; exact g3⟩
theorem am_creturn {ty : FieldType} (hz : Go z cc own nL (some ty) d0 mc0 ms0 post0) {x : Int32} (hty : ty = .char ∨ ty = .byte) (hx : narrow ty (.int x) = .int x) (hd : decode cc pc = .ok (.ireturn, 1)) (h : post0 (some (.int x)) G I L) : Wx z mc0 ms0 pc lv [.int x] G I L := by
  intro ls H locs h1 h2 h3
  rw [hz.2.2.2.2]
  rcases hty with rfl | rfl
  · exact W.zret (ty := .char) hz.1.1 hz.1.2.1 hz.2.2.1 hx (fun t ht _ => ⟨_, G, I, L, rfl, h, by rw [ht]; exact h2⟩) h3 hd hz.2.2.2.1
  · exact W.zret (ty := .byte) hz.1.1 hz.1.2.1 hz.2.2.1 hx (fun t ht _ => ⟨_, G, I, L, rfl, h, by rw [ht]; exact h2⟩) h3 hd hz.2.2.2.1
end AMS
section SCON
variable {l : Launch} {D : va_G} {B : Heap} {G : amG} {I : amI} {L : amL}
theorem c_J0_isLatin1 {i : Nat} (hi : i < 5) : Fx l D B yJ0_isLatin1_aae02 cJ0_isLatin1_aae02 1 (some .boolean) 0 [.ref (adK D i)] G I L (some (.int 1)) I L := by
  refine Mx.of (by decide) rfl rfl (fun z e1 e2 e3 hz => ?_)
  subst e1; subst e2; subst e3
  refine am_compact hz.1 dJ0_isLatin1_aae02_0 ?_
  refine am_if_eq hz.1 (tgt := 17) dJ0_isLatin1_aae02_3 (by decide) (fun q => absurd q (by decide)) (fun _ => ?_)
  refine am_aload_n hz.1 dJ0_isLatin1_aae02_6 0 rfl rfl ?_
  refine am_coder hz.1 hi dJ0_isLatin1_aae02_7 ?_
  refine am_if_ne hz.1 (tgt := 17) dJ0_isLatin1_aae02_10 (by decide) (fun q => absurd rfl q) (fun _ => ?_)
  refine am_iconst hz.1 (v := 1) dJ0_isLatin1_aae02_13 (by decide) ?_
  refine am_goto hz.1 (tgt := 18) dJ0_isLatin1_aae02_14 (by decide) ?_
  exact am_zreturn hz (Or.inr rfl) dJ0_isLatin1_aae02_18 ⟨rfl, rfl, rfl, rfl⟩
theorem c_J0_coder {i : Nat} (hi : i < 5) : Fx l D B yJ0_coder_7d493 cJ0_coder_7d493 1 (some .byte) 0 [.ref (adK D i)] G I L (some (.int 0)) I L := by
  refine Mx.of (by decide) rfl rfl (fun z e1 e2 e3 hz => ?_)
  subst e1; subst e2; subst e3
  refine am_compact hz.1 dJ0_coder_7d493_0 ?_
  refine am_if_eq hz.1 (tgt := 13) dJ0_coder_7d493_3 (by decide) (fun q => absurd q (by decide)) (fun _ => ?_)
  refine am_aload_n hz.1 dJ0_coder_7d493_6 0 rfl rfl ?_
  refine am_coder hz.1 hi dJ0_coder_7d493_7 ?_
  refine am_goto hz.1 (tgt := 14) dJ0_coder_7d493_10 (by decide) ?_
  exact am_creturn hz (Or.inr rfl) rfl dJ0_coder_7d493_14 ⟨rfl, rfl, rfl, rfl⟩
theorem shr0 : ∀ i, i < 5 → nI (wL i) >>> ((0 : Int32) &&& 31) = nI (wL i) := by decide +kernel
theorem c_J0_length {i : Nat} (hi : i < 5) : Fx l D B yJ0_length_8abf5 cJ0_length_8abf5 1 (some .int) 1 [.ref (adK D i)] G I L (some (.int (nI (wL i)))) I L := by
  refine Mx.of (by decide) rfl rfl (fun z e1 e2 e3 hz => ?_)
  subst e1; subst e2; subst e3
  refine am_aload_n hz.1 dJ0_length_8abf5_0 0 rfl rfl ?_
  refine am_valueS hz.1 hi dJ0_length_8abf5_1 ?_
  refine am_lenS hz.1 hi dJ0_length_8abf5_4 ?_
  refine am_aload_n hz.1 dJ0_length_8abf5_5 0 rfl rfl ?_
  refine am_callW hz cw_J0_335 [] [.int (nI (wL i))] (c_J0_coder hi) hi rfl rfl rfl ⟨Nat.le_refl _, Nat.le_refl _⟩ (Nat.le_of_ble_eq_true rfl) dJ0_length_8abf5_6 ?_
  refine am_ishr hz.1 dJ0_length_8abf5_9 ?_
  rw [shr0 i hi]
  exact am_ireturn hz dJ0_length_8abf5_10 ⟨rfl, rfl, rfl, rfl⟩
theorem c_J3_checkIndex {i n : Int32} {v : Value} (hv : v = .null ∨ ∃ t : Nat, v = .ref t) (h1 : ¬ i < 0) (h2 : i < n) : Fx l D B yJ3_checkIndex_8e157 cJ3_checkIndex_8e157 3 (some .int) 0 [.int i, .int n, v] G I L (some (.int i)) I L := by
  have key : ∀ lv, lv[0]? = some (0, Value.int i) → lv[1]? = some (1, Value.int n) → ∀ z : amZ, zL z = l → zD z = D → zB z = B → Go z cJ3_checkIndex_8e157 yJ3_checkIndex_8e157.cls 3 (some .int) 0 0 0 (fun r G1 I1 L1 => r = some (.int i) ∧ G1 = G ∧ I1 = I ∧ L1 = L) → Wx z 0 0 0 lv [] G I L := by
    intro lv k0 k1 z e1 e2 e3 hz
    refine am_iload_n hz.1 dJ3_checkIndex_8e157_0 0 k0 rfl ?_
    refine am_if_lt hz.1 (tgt := 9) dJ3_checkIndex_8e157_1 (by decide) (fun q => absurd q h1) (fun _ => ?_)
    refine am_iload_n hz.1 dJ3_checkIndex_8e157_4 0 k0 rfl ?_
    refine am_iload_n hz.1 dJ3_checkIndex_8e157_5 1 k1 rfl ?_
    refine am_icmp_lt hz.1 (tgt := 16) dJ3_checkIndex_8e157_6 (by decide) (fun _ => ?_) (fun q => absurd h2 q)
    refine am_iload_n hz.1 dJ3_checkIndex_8e157_16 0 k0 rfl ?_
    exact am_ireturn hz dJ3_checkIndex_8e157_17 ⟨rfl, rfl, rfl, rfl⟩
  rcases hv with rfl | ⟨t, rfl⟩
  · exact Mx.of (by decide) rfl rfl (key _ rfl rfl)
  · exact Mx.of (by decide) rfl rfl (key _ rfl rfl)
theorem c_J0_checkIndex {i n : Int32} (h1 : ¬ i < 0) (h2 : i < n) : Fx l D B yJ0_checkIndex_df160 cJ0_checkIndex_df160 2 none 1 [.int i, .int n] G I L none I L := by
  refine Mx.of (by decide) rfl rfl (fun z e1 e2 e3 hz => ?_)
  subst e1; subst e2; subst e3
  refine am_iload_n hz.1 dJ0_checkIndex_df160_0 0 rfl rfl ?_
  refine am_iload_n hz.1 dJ0_checkIndex_df160_1 1 rfl rfl ?_
  refine am_formatter hz.1 dJ0_checkIndex_df160_2 (fun v hv => ?_)
  refine am_cSf hz ct_J0_1059 [.int i, .int n, v] [] (c_J3_checkIndex hv h1 h2) rfl rfl rfl ⟨Nat.le_refl _, Nat.le_refl _⟩ (Nat.le_of_ble_eq_true rfl) dJ0_checkIndex_df160_5 ?_
  refine am_pop hz.1 dJ0_checkIndex_df160_8 rfl ?_
  exact am_return hz dJ0_checkIndex_df160_9 ⟨rfl, rfl, rfl, rfl⟩
theorem wB_c : ∀ i, i < 5 → ∀ k, k < wL i → ((wB i k &&& 255).toUInt32 % 65536).toInt32 = wB i k := by decide +kernel
theorem wB_n : ∀ i, i < 5 → ∀ k, k < wL i → narrow .char (.int (wB i k)) = .int (wB i k) := by decide +kernel
theorem wL_8 : ∀ i, i < 5 → wL i ≤ 8 := by decide
theorem c_J1_charAt {i k : Nat} (hi : i < 5) (hk : k < wL i) : Fx l D B yJ1_charAt_3b067 cJ1_charAt_3b067 2 (some .char) 2 [.ref (adV D i), .int (nI k)] G I L (some (.int (wB i k))) I L := by
  have h8 := wL_8 i hi
  refine Mx.of (by decide) rfl rfl (fun z e1 e2 e3 hz => ?_)
  subst e1; subst e2; subst e3
  refine am_iload_n hz.1 dJ1_charAt_3b067_0 1 rfl rfl ?_
  refine am_aload_n hz.1 dJ1_charAt_3b067_1 0 rfl rfl ?_
  refine am_lenS hz.1 hi dJ1_charAt_3b067_2 ?_
  refine am_cSf hz ct_J1_9 [.int (nI k), .int (nI (wL i))] [] (c_J0_checkIndex (nI_pos (by omega)) (nI_lt hk (by omega))) rfl rfl rfl ⟨Nat.le_refl _, Nat.le_refl _⟩ (Nat.le_of_ble_eq_true rfl) dJ1_charAt_3b067_3 ?_
  refine am_aload_n hz.1 dJ1_charAt_3b067_6 0 rfl rfl ?_
  refine am_iload_n hz.1 dJ1_charAt_3b067_7 1 rfl rfl ?_
  refine am_baldS hz.1 hi hk dJ1_charAt_3b067_8 ?_
  refine am_sipush hz.1 (v := 255) dJ1_charAt_3b067_9 (by decide) ?_
  refine am_iand hz.1 dJ1_charAt_3b067_12 ?_
  refine am_i2c hz.1 dJ1_charAt_3b067_13 ?_
  rw [wB_c i hi k hk]
  exact am_creturn hz (Or.inl rfl) (wB_n i hi k hk) dJ1_charAt_3b067_14 ⟨rfl, rfl, rfl, rfl⟩
theorem c_J0_charAt {i k : Nat} (hi : i < 5) (hk : k < wL i) : Fx l D B yJ0_charAt_5068e cJ0_charAt_5068e 2 (some .char) 3 [.ref (adK D i), .int (nI k)] G I L (some (.int (wB i k))) I L := by
  refine Mx.of (by decide) rfl rfl (fun z e1 e2 e3 hz => ?_)
  subst e1; subst e2; subst e3
  refine am_aload_n hz.1 dJ0_charAt_5068e_0 0 rfl rfl ?_
  refine am_callW hz cw_J0_492 [] [] (c_J0_isLatin1 hi) hi rfl rfl rfl ⟨Nat.le_refl _, Nat.le_refl _⟩ (Nat.le_of_ble_eq_true rfl) dJ0_charAt_5068e_1 ?_
  refine am_if_eq hz.1 (tgt := 16) dJ0_charAt_5068e_4 (by decide) (fun q => absurd q (by decide)) (fun _ => ?_)
  refine am_aload_n hz.1 dJ0_charAt_5068e_7 0 rfl rfl ?_
  refine am_valueS hz.1 hi dJ0_charAt_5068e_8 ?_
  refine am_iload_n hz.1 dJ0_charAt_5068e_11 1 rfl rfl ?_
  refine am_cSf hz ct_J0_495 [.ref (adV (zD z) i), .int (nI k)] [] (c_J1_charAt hi hk) rfl rfl rfl ⟨Nat.le_refl _, Nat.le_refl _⟩ (Nat.le_of_ble_eq_true rfl) dJ0_charAt_5068e_12 ?_
  exact am_creturn hz (Or.inl rfl) (wB_n i hi k hk) dJ0_charAt_5068e_15 ⟨rfl, rfl, rfl, rfl⟩
end SCON
theorem c_J0_charAtV {l : Launch} {D : va_G} {B : Heap} {G : amG} {I : amI} {L : amL} {i : Nat} {v : Int32} (hi : i < 5) (h : vp_in v (wL i)) : Fx l D B yJ0_charAt_5068e cJ0_charAt_5068e 2 (some .char) 3 [.ref (adK D i), .int v] G I L (some (.int (wB i v.toNatClampNeg))) I L := by
  have h0 : ¬ v < 0 := fun q => h (Or.inl q)
  obtain ⟨k, hk, rfl⟩ := nI_of h0
  have hlt : k < wL i := Classical.byContradiction fun q => h (Or.inr (by rw [cl_nI hk]; omega))
  rw [cl_nI hk]
  exact c_J0_charAt hi hlt
