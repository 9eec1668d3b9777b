/-! THE CLASS READS: blanks, words, numbers -/
def rdV (I : amI) (m : Nat) (T : Nat → Int32) (a : Nat) : Prop := m ≤ 120 ∧ I 1 1 = nI m ∧ (∀ i, i < m → I 2 i &&& 255 = T i) ∧ I 17 3 = nI a ∧ a ≤ m ∧ ∀ i, i < m → ∃ b, b < 256 ∧ T i = nI b
def cOk (I : amI) : Prop := ∃ m T a, rdV I m T a
def cBg (I : amI) : Prop := ∃ b, b ≤ 120 ∧ I 17 4 = nI b
def skC (I : amI) : Nat := rn isBl (fun k => q_tat I (nI k)) (I 1 1).toNatClampNeg (I 17 3).toNatClampNeg
def skp (I : amI) : amI := setI I 17 (upd (I 17) 3 (nI (skC I)))
def q_blm (I : amI) (a b : Int32) : amI := if I 17 5 = 0 then setI I 17 (upd (I 17) 5 (8 * a + b)) else I
def q_sgn (I : amI) (c : Int32) : amI := if q_tat (skp I) (skp I 17 3) = c then setI (skp I) 17 (upd (skp I 17) 3 (skp I 17 3 + 1)) else q_blm (skp I) (skp I 17 3) 1
def q_isw (I : amI) (w : Nat) : Bool := decide (I 17 3 - I 17 4 = nI (wL w)) && scan (fun j => !decide (q_tat I (I 17 4 + nI j) = wB w j)) (fun _ => false) true (wL w) 0
def kwI (v : Int32) : Nat := if v = 0 then 0 else if v = 1 then 1 else if v = 2 then 2 else if v = 3 then 3 else 4
theorem kwI_lt (v : Int32) : kwI v < 5 := by unfold kwI; repeat' split
                                             all_goals decide
/-- only what is read changes -/
def frC (I I1 : amI) : Prop := (∀ q, q ≠ 17 → I1 q = I q) ∧ ∀ k, k ≠ 3 → k ≠ 4 → k ≠ 5 → I1 17 k = I 17 k
def frD (I I1 : amI) : Prop := (∀ q, q ≠ 17 → q ≠ 10 → q ≠ 11 → q ≠ 18 → I1 q = I q) ∧ (∀ k, k ≠ 3 → k ≠ 4 → k ≠ 5 → I1 17 k = I 17 k) ∧ ∀ k, k ≠ 0 → I1 10 k = I 10 k
theorem frC_r {I : amI} : frC I I := ⟨fun _ _ => rfl, fun _ _ _ _ => rfl⟩
theorem frC_t {I I1 I2 : amI} (h : frC I I1) (h2 : frC I1 I2) : frC I I2 := ⟨fun q hq => by rw [h2.1 q hq, h.1 q hq], fun k a b c => by rw [h2.2 k a b c, h.2 k a b c]⟩
theorem frD_r {I : amI} : frD I I := ⟨fun _ _ _ _ _ => rfl, fun _ _ _ _ => rfl, fun _ _ => rfl⟩
theorem frD_t {I I1 I2 : amI} (h : frD I I1) (h2 : frD I1 I2) : frD I I2 := ⟨fun q a b c d => by rw [h2.1 q a b c d, h.1 q a b c d], fun k a b c => by rw [h2.2.1 k a b c, h.2.1 k a b c], fun k a => by rw [h2.2.2 k a, h.2.2 k a]⟩
theorem frC.D {I I1 : amI} (h : frC I I1) : frD I I1 := ⟨fun q a _ _ _ => h.1 q a, h.2, fun k _ => by rw [h.1 10 (by decide)]⟩
theorem frC_17 {I : amI} {k : Nat} {x : Int32} (h : k = 3 ∨ k = 4 ∨ k = 5) : frC I (setI I 17 (upd (I 17) k x)) := ⟨fun q hq => setI_n hq, fun j a b c => by rw [setI_s, upd_n (by omega)]⟩
theorem frD_a {I : amI} {p : Nat} {f : Nat → Int32} (h : p = 11 ∨ p = 18) : frD I (setI I p f) := ⟨fun q _ _ a b => setI_n (by omega), fun j _ _ _ => by rw [setI_n (by omega)], fun j _ => by rw [setI_n (by omega)]⟩
theorem rdV.mv {I I1 : amI} {m a a' : Nat} {T : Nat → Int32} (h : rdV I m T a) (hf : frD I I1) (h3 : I1 17 3 = nI a') (ha : a' ≤ m) : rdV I1 m T a' :=
  ⟨h.1, by rw [hf.1 1 (by decide) (by decide) (by decide) (by decide)]; exact h.2.1, fun i hi => by rw [hf.1 2 (by decide) (by decide) (by decide) (by decide)]; exact h.2.2.1 i hi, h3, ha, h.2.2.2.2.2⟩
theorem rdV.ok {I : amI} {m a : Nat} {T : Nat → Int32} (h : rdV I m T a) : cOk I := ⟨m, T, a, h⟩
theorem rdV.tp {I : amI} {m a : Nat} {T : Nat → Int32} (h : rdV I m T a) : tpOk I := ⟨m, h.1, h.2.1⟩
theorem rdV.byte {I : amI} {m a k : Nat} {T : Nat → Int32} (h : rdV I m T a) (hk : k < 2 ^ 31) : q_tat I (nI k) = tb m T k := by
  have hm := h.1
  rw [q_tat, h.2.1, tb, if_neg (nI_pos hk)]
  by_cases e : k < m
  · rw [if_neg (nI_ge e (by omega)), if_pos e, cl_nI hk, h.2.2.1 k e]
  · rw [if_pos (nI_le (by omega) hk), if_neg e]
theorem rdV.dig {I : amI} {m a k : Nat} {T : Nat → Int32} (h : rdV I m T a) (hk : k < 2 ^ 31) : q_dig I (nI k) = isDg (tb m T k) := by
  rw [q_dig, h.byte hk, isDg]
  congr 1
  · exact decide_eq_decide.mpr Int32.not_lt
  · exact decide_eq_decide.mpr Int32.not_lt
theorem rdV.lett {I : amI} {m a k : Nat} {T : Nat → Int32} (h : rdV I m T a) (hk : k < 2 ^ 31) : q_let I (nI k) = isLt (tb m T k) := by
  rw [q_let, h.byte hk, isLt]
  congr 1
  · exact decide_eq_decide.mpr Int32.not_lt
  · exact decide_eq_decide.mpr Int32.not_lt
theorem rdV.skE {I : amI} {m a : Nat} {T : Nat → Int32} (h : rdV I m T a) : skC I = sk m T a := by
  have hm := h.1
  have ha := h.2.2.2.2.1
  rw [skC, h.2.1, h.2.2.2.1, cl_nI (by omega), cl_nI (by omega)]
  exact rn_c (fun j hj => h.byte (by omega))
theorem skp_3 {I : amI} : skp I 17 3 = nI (skC I) := by rw [skp, setI_s, upd_s]
theorem skp_fr {I : amI} : frC I (skp I) := frC_17 (Or.inl rfl)
theorem skp_5 {I : amI} : skp I 17 5 = I 17 5 := by rw [skp, setI_s, upd_n (by decide)]
theorem rdV.nx {I : amI} {m a : Nat} {T : Nat → Int32} (h : rdV I m T a) : rdV (skp I) m T (sk m T a) := h.mv skp_fr.D (by rw [skp_3, h.skE]) (sk_le h.2.2.2.2.1).2
theorem skp_at {I : amI} {m a : Nat} {T : Nat → Int32} (h : rdV I m T a) : skp I = setI I 17 (upd (I 17) 3 (nI (sk m T a))) := by rw [skp, h.skE]
theorem skp_idem {I : amI} {m a : Nat} {T : Nat → Int32} (h : rdV I m T a) : skp (skp I) = skp I := by
  have h2 := h.nx.skE
  rw [show sk m T (sk m T a) = sk m T a from rn_idem h.2.2.2.2.1] at h2
  rw [skp, h2]
  conv => lhs; rw [skp]
  rw [setI_ss, setI_s, upd_upd, skp, h.skE]
theorem n8 (a b : Nat) : (8 : Int32) * nI a + nI b = nI (8 * a + b) := by rw [show (8 : Int32) = nI 8 from rfl, nI_mul, nI_add]
set_option maxRecDepth 100000 in
set_option maxHeartbeats 4000000 in
theorem b_X6_blame_0 {z : amZ} {post : amP} {G : amG} {I : amI} {L : amL} (hz : Go z cX6_blame RX6 3 none 0 0 0 post) (hG : Lay G) {v1 : Int32} {v2 : Int32} (h : ((¬ (I 17 5) = 0) → post none G I L) ∧ (((I 17 5) = 0) → post none G (setI I 17 (upd (I 17) 5 (((8 : Int32) * v1) + v2))) L)) : Wx z 0 0 0 [(0, .ref ((zB z).size + 17)), (1, .int v1), (2, .int v2)] [] G I L := by
  have hz1 := hz.1
  refine am_aload_n hz1 dX6_blame_0 0 rfl rfl ?_
  refine am_getI hz1 fl_X6_27 (ln_17 hG) (lk_17 hG) rfl dX6_blame_1 ?_
  refine am_if_ne (tgt := 17) hz1 dX6_blame_4 (by decide) (fun c1 => ?_) (fun c1 => ?_)
  · replace h := h.1 c1
    exact am_return hz dX6_blame_17 h
  · replace h := h.2 c1
    refine am_aload_n hz1 dX6_blame_7 0 rfl rfl ?_
    refine am_bipush (v := 8) hz1 dX6_blame_8 (by decide) ?_
    refine am_iload_n hz1 dX6_blame_10 1 rfl rfl ?_
    refine am_imul hz1 dX6_blame_11 ?_
    refine am_iload_n hz1 dX6_blame_12 2 rfl rfl ?_
    refine am_iadd hz1 dX6_blame_13 ?_
    refine am_putI hz1 fl_X6_27 (ln_17 hG) (lk_17 hG) rfl rfl (fun _ => rfl) dX6_blame_14 ?_
    exact am_return hz dX6_blame_17 h
set_option maxRecDepth 100000 in
set_option maxHeartbeats 4000000 in
theorem c_X6_blame {l : Launch} {D : va_G} {B : Heap} {G : amG} {I : amI} {L : amL}  (hG : Lay G)  (v1 : Int32) (v2 : Int32)  : Fx l D B yX6_blame cX6_blame 3 none 0 [.ref (B.size + 17), .int v1, .int v2] G I L none (q_blm I v1 v2) L := by
  refine Mx.of (by decide) rfl rfl (fun z e1 e2 e3 hz => ?_)
  subst e1; subst e2; subst e3
  refine b_X6_blame_0 hz hG ?_
  refine ⟨fun h => ?_, fun h => ?_⟩
  · rw [q_blm, if_neg h]; exact ⟨rfl, rfl, rfl, rfl⟩
  · rw [q_blm, if_pos h]; exact ⟨rfl, rfl, rfl, rfl⟩
set_option maxRecDepth 100000 in
set_option maxHeartbeats 4000000 in
theorem b_X6_kindWord_0 {z : amZ} {post : amP} {G : amG} {I : amI} {L : amL} (hz : Go z cX6_kindWord RX6 1 (some (.object "java/lang/String")) 0 0 0 post) (hG : Lay G) {v0 : Int32} (h : (v0 = 0 → post (some (.ref (adK (zD z) 0))) G I L) ∧ (v0 = 1 → post (some (.ref (adK (zD z) 1))) G I L) ∧ (v0 = 2 → post (some (.ref (adK (zD z) 2))) G I L) ∧ (v0 = 3 → post (some (.ref (adK (zD z) 3))) G I L) ∧ ((v0 < 0 ∨ 3 < v0) → post (some (.ref (adK (zD z) 4))) G I L)) : Wx z 0 0 0 [(0, .int v0)] [] G I L := by
  have hz1 := hz.1
  refine am_iload_n hz1 dX6_kindWord_0 0 rfl rfl ?_
  by_cases c1_0 : v0 = 0
  · replace h := h.1 c1_0
    refine am_tabI (off := 31) (tgt := 32) hz1 0 dX6_kindWord_1 c1_0 (by decide) (by decide) rfl (by decide) ?_
    refine am_ldS hz1 (index := 75) (tx := "free") (i := 0) (List.mem_of_getElem? (i := 0) rfl) dX6_kindWord_32 ?_
    exact am_areturn hz (Or.inr ⟨_, rfl⟩) dX6_kindWord_34 h
  by_cases c1_1 : v0 = 1
  · replace h := h.2.1 c1_1
    refine am_tabI (off := 34) (tgt := 35) hz1 1 dX6_kindWord_1 c1_1 (by decide) (by decide) rfl (by decide) ?_
    refine am_ldS hz1 (index := 77) (tx := "chain") (i := 1) (List.mem_of_getElem? (i := 1) rfl) dX6_kindWord_35 ?_
    exact am_areturn hz (Or.inr ⟨_, rfl⟩) dX6_kindWord_37 h
  by_cases c1_2 : v0 = 2
  · replace h := h.2.2.1 c1_2
    refine am_tabI (off := 37) (tgt := 38) hz1 2 dX6_kindWord_1 c1_2 (by decide) (by decide) rfl (by decide) ?_
    refine am_ldS hz1 (index := 79) (tx := "cube") (i := 2) (List.mem_of_getElem? (i := 2) rfl) dX6_kindWord_38 ?_
    exact am_areturn hz (Or.inr ⟨_, rfl⟩) dX6_kindWord_40 h
  by_cases c1_3 : v0 = 3
  · replace h := h.2.2.2.1 c1_3
    refine am_tabI (off := 40) (tgt := 41) hz1 3 dX6_kindWord_1 c1_3 (by decide) (by decide) rfl (by decide) ?_
    refine am_ldS hz1 (index := 81) (tx := "divisors") (i := 3) (List.mem_of_getElem? (i := 3) rfl) dX6_kindWord_41 ?_
    exact am_areturn hz (Or.inr ⟨_, rfl⟩) dX6_kindWord_43 h
  have c1 : v0 < 0 ∨ 3 < v0 := tabx_4_0 c1_0 c1_1 c1_2 c1_3
  replace h := h.2.2.2.2 c1
  refine am_tabO (tgt := 44) hz1 dX6_kindWord_1 (c1.elim (fun e => Or.inl (tab_lt 0 rfl e)) (fun e => Or.inr (tab_gt 3 rfl e))) (by decide) ?_
  refine am_ldS hz1 (index := 83) (tx := "parts") (i := 4) (List.mem_of_getElem? (i := 4) rfl) dX6_kindWord_44 ?_
  exact am_areturn hz (Or.inr ⟨_, rfl⟩) dX6_kindWord_46 h
set_option maxRecDepth 100000 in
set_option maxHeartbeats 4000000 in
theorem c_X6_kindWord {l : Launch} {D : va_G} {B : Heap} {G : amG} {I : amI} {L : amL}  (hG : Lay G)  (v0 : Int32)  : Fx l D B yX6_kindWord cX6_kindWord 1 (some (.object "java/lang/String")) 0 [.int v0] G I L (some (.ref (adK D (kwI v0)))) I L := by
  refine Mx.of (by decide) rfl rfl (fun z e1 e2 e3 hz => ?_)
  subst e1; subst e2; subst e3
  refine b_X6_kindWord_0 hz hG ?_
  refine ⟨fun h => ?_, fun h => ?_, fun h => ?_, fun h => ?_, fun h => ?_⟩
  · subst h; exact ⟨rfl, rfl, rfl, rfl⟩
  · subst h; exact ⟨rfl, rfl, rfl, rfl⟩
  · subst h; exact ⟨rfl, rfl, rfl, rfl⟩
  · subst h; exact ⟨rfl, rfl, rfl, rfl⟩
  · have hn : ∀ k : Int32, (0 ≤ k ∧ k ≤ 3) → ¬ v0 = k := by
      rintro k ⟨k1, k2⟩ rfl
      rw [Int32.le_iff_toInt_le] at k1 k2
      rcases h with q | q
      · rw [Int32.lt_iff_toInt_lt] at q; omega
      · rw [Int32.lt_iff_toInt_lt] at q; omega
    have hk : kwI v0 = 4 := by rw [kwI, if_neg (hn 0 (by decide)), if_neg (hn 1 (by decide)), if_neg (hn 2 (by decide)), if_neg (hn 3 (by decide))]
    rw [hk]; exact ⟨rfl, rfl, rfl, rfl⟩
set_option maxRecDepth 100000 in
set_option maxHeartbeats 4000000 in
theorem b_X6_skipBlanks_0 {z : amZ} {post : amP} {G : amG} {I : amI} {L : amL} (hz : Go z cX6_skipBlanks RX6 1 none 1 0 0 post) (hG : Lay G)  (h : (((I 1 1) ≤ (I 17 3)) → post none G I L) ∧ ((¬ (I 1 1) ≤ (I 17 3)) → (tpOk I) ∧ ((¬ (q_tat I (I 17 3)) = (32 : Int32)) → post none G I L) ∧ (((q_tat I (I 17 3)) = (32 : Int32)) → Wx z 0 0 0 [(0, .ref ((zB z).size + 17))] [] G (setI I 17 (upd (I 17) 3 ((I 17 3) + (1 : Int32)))) L))) : Wx z 0 0 0 [(0, .ref ((zB z).size + 17))] [] G I L := by
  have hz1 := hz.1
  refine am_aload_n hz1 dX6_skipBlanks_0 0 rfl rfl ?_
  refine am_getI hz1 fl_X6_23 (ln_17 hG) (lk_17 hG) rfl dX6_skipBlanks_1 ?_
  refine am_aload_n hz1 dX6_skipBlanks_4 0 rfl rfl ?_
  refine am_getR hz1 fl_X6_15 (ln_17 hG) (lk_17 hG) (lr_17_0 hG) rfl dX6_skipBlanks_5 ?_
  refine am_getI hz1 fl_X6_51 (ln_1 hG) (lk_1 hG) rfl dX6_skipBlanks_8 ?_
  refine am_icmp_ge (tgt := 43) hz1 dX6_skipBlanks_11 (by decide) (fun c1 => ?_) (fun c1 => ?_)
  · replace h := h.1 c1
    exact am_return hz dX6_skipBlanks_43 h
  · replace h := h.2 c1
    refine am_aload_n hz1 dX6_skipBlanks_14 0 rfl rfl ?_
    refine am_getR hz1 fl_X6_15 (ln_17 hG) (lk_17 hG) (lr_17_0 hG) rfl dX6_skipBlanks_15 ?_
    refine am_aload_n hz1 dX6_skipBlanks_18 0 rfl rfl ?_
    refine am_getI hz1 fl_X6_23 (ln_17 hG) (lk_17 hG) rfl dX6_skipBlanks_19 ?_
    obtain ⟨g2, h⟩ := h
    refine am_cVf hz cv_X6_56 [.int (I 17 3)] [] (c_X10_at hG (I 17 3) g2) (ln_1 hG) (lk_1 hG) rfl rfl rfl ⟨Nat.le_refl _, Nat.le_refl _⟩ (Nat.le_of_ble_eq_true rfl) dX6_skipBlanks_22 ?_
    refine am_bipush (v := 32) hz1 dX6_skipBlanks_25 (by decide) ?_
    refine am_icmp_ne (tgt := 43) hz1 dX6_skipBlanks_27 (by decide) (fun c3 => ?_) (fun c3 => ?_)
    · replace h := h.1 c3
      exact am_return hz dX6_skipBlanks_43 h
    · replace h := h.2 c3
      refine am_aload_n hz1 dX6_skipBlanks_30 0 rfl rfl ?_
      refine am_dup hz1 dX6_skipBlanks_31 rfl ?_
      refine am_getI hz1 fl_X6_23 (ln_17 hG) (lk_17 hG) rfl dX6_skipBlanks_32 ?_
      refine am_iconst (v := 1) hz1 dX6_skipBlanks_35 (by decide) ?_
      refine am_iadd hz1 dX6_skipBlanks_36 ?_
      refine am_putI hz1 fl_X6_23 (ln_17 hG) (lk_17 hG) rfl rfl (fun _ => rfl) dX6_skipBlanks_37 ?_
      refine am_goto (tgt := 0) hz1 dX6_skipBlanks_40 (by decide) ?_
      exact h
set_option maxHeartbeats 4000000 in
theorem c_X6_skipBlanks {l : Launch} {D : va_G} {B : Heap} {G : amG} {I : amI} {L : amL} (hG : Lay G) (hk : cOk I) : Fx l D B yX6_skipBlanks cX6_skipBlanks 1 none 1 [.ref (B.size + 17)] G I L none (skp I) L := by
  obtain ⟨m, T, a, hT⟩ := hk
  have hm := hT.1
  have ha := hT.2.2.2.2.1
  obtain ⟨s1, s2⟩ := sk_le (m := m) (T := T) ha
  rw [skp_at hT]
  refine Mx.of (by decide) rfl rfl (fun z e1 e2 e3 hz => ?_)
  subst e1; subst e2; subst e3
  have main : ∀ d k, m - k = d → a ≤ k → k ≤ m → sk m T k = sk m T a → Wx z 0 0 0 [(0, .ref ((zB z).size + 17))] [] G (setI I 17 (upd (I 17) 3 (nI k))) L := by
    intro d
    induction d with
    | zero =>
      intro k h1 h2 h3 h4
      have hK : rdV (setI I 17 (upd (I 17) 3 (nI k))) m T k := hT.mv (frC_17 (Or.inl rfl)).D (by rw [setI_s, upd_s]) h3
      refine b_X6_skipBlanks_0 hz hG ⟨fun _ => ?_, fun q => absurd (by rw [hK.2.1, hK.2.2.2.1]; exact nI_le (by omega) (by omega)) q⟩
      have e : sk m T a = k := by rw [← h4, show sk m T k = m from rn_m (by omega)]; omega
      rw [e]; exact ⟨rfl, rfl, rfl, rfl⟩
    | succ d ih =>
      intro k h1 h2 h3 h4
      have hK : rdV (setI I 17 (upd (I 17) 3 (nI k))) m T k := hT.mv (frC_17 (Or.inl rfl)).D (by rw [setI_s, upd_s]) h3
      have hs : sk m T k = if isBl (tb m T k) = true then sk m T (k + 1) else k := rn_s (by omega)
      refine b_X6_skipBlanks_0 hz hG ⟨fun q => absurd q (by rw [hK.2.1, hK.2.2.2.1]; exact nI_ge (by omega) (by omega)), fun _ => ⟨hK.tp, ?_⟩⟩
      rw [hK.2.2.2.1, hK.byte (by omega), setI_ss, setI_s, upd_upd, nI_1]
      refine ⟨fun q => ?_, fun q => ?_⟩
      · rw [if_neg (by rw [isBl, decide_eq_false q]; decide)] at hs
        rw [← h4, hs]; exact ⟨rfl, rfl, rfl, rfl⟩
      · rw [if_pos (by rw [isBl, decide_eq_true q])] at hs
        exact ih (k + 1) (by omega) (by omega) (by omega) (by rw [← hs, h4])
  have := main _ a rfl (Nat.le_refl _) ha rfl
  rw [← hT.2.2.2.1, upd_id, setI_id] at this
  exact this
set_option maxRecDepth 100000 in
set_option maxHeartbeats 4000000 in
theorem b_X6_isWord_0 {z : amZ} {post : amP} {G : amG} {I : amI} {L : amL} (hz : Go z cX6_isWord RX6 3 (some .boolean) 5 0 0 post) (hG : Lay G) {w1 : Nat} (hw1 : w1 < 5)  (h : ((((I 17 3) - (I 17 4)) = (nI (wL w1))) → Wx z 0 0 20 [(0, .ref ((zB z).size + 17)), (1, .ref (adK (zD z) w1)), (2, .int 0)] [] G I L) ∧ ((¬ ((I 17 3) - (I 17 4)) = (nI (wL w1))) → post (some (.int 0)) G I L)) : Wx z 0 0 0 [(0, .ref ((zB z).size + 17)), (1, .ref (adK (zD z) w1))] [] G I L := by
  have hz1 := hz.1
  refine am_aload_n hz1 dX6_isWord_0 0 rfl rfl ?_
  refine am_getI hz1 fl_X6_23 (ln_17 hG) (lk_17 hG) rfl dX6_isWord_1 ?_
  refine am_aload_n hz1 dX6_isWord_4 0 rfl rfl ?_
  refine am_getI hz1 fl_X6_41 (ln_17 hG) (lk_17 hG) rfl dX6_isWord_5 ?_
  refine am_isub hz1 dX6_isWord_8 ?_
  refine am_aload_n hz1 dX6_isWord_9 1 rfl rfl ?_
  refine am_callW hz cw_X6_85 [] [.int ((I 17 3) - (I 17 4))] (c_J0_length hw1) hw1 rfl rfl rfl ⟨Nat.le_refl _, Nat.le_refl _⟩ (Nat.le_of_ble_eq_true rfl) dX6_isWord_10 ?_
  refine am_icmp_eq (tgt := 18) hz1 dX6_isWord_13 (by decide) (fun c1 => ?_) (fun c1 => ?_)
  · replace h := h.1 c1
    refine am_iconst (v := 0) hz1 dX6_isWord_18 (by decide) ?_
    refine am_istore_n (lv' := [(2, .int 0), (0, .ref ((zB z).size + 17)), (1, .ref (adK (zD z) w1))]) hz1 dX6_isWord_19 rfl rfl rfl ?_
    exact am_sub (lv' := [(0, .ref ((zB z).size + 17)), (1, .ref (adK (zD z) w1)), (2, .int 0)]) [1, 2, 0] rfl h
  · replace h := h.2 c1
    refine am_iconst (v := 0) hz1 dX6_isWord_16 (by decide) ?_
    exact am_zreturn hz (by decide) dX6_isWord_17 h
set_option maxRecDepth 100000 in
set_option maxHeartbeats 4000000 in
theorem b_X6_isWord_20 {z : amZ} {post : amP} {G : amG} {I : amI} {L : amL} (hz : Go z cX6_isWord RX6 3 (some .boolean) 5 0 0 post) (hG : Lay G) {w1 : Nat} (hw1 : w1 < 5) {v2 : Int32} (h : (((nI (wL w1)) ≤ v2) → post (some (.int 1)) G I L) ∧ ((¬ (nI (wL w1)) ≤ v2) → (tpOk I) ∧ vp_in v2 (wL w1) ∧ (((q_tat I ((I 17 4) + v2)) = (wB w1 v2.toNatClampNeg)) → Wx z 0 0 20 [(0, .ref ((zB z).size + 17)), (1, .ref (adK (zD z) w1)), (2, .int (v2 + 1))] [] G I L) ∧ ((¬ (q_tat I ((I 17 4) + v2)) = (wB w1 v2.toNatClampNeg)) → post (some (.int 0)) G I L))) : Wx z 0 0 20 [(0, .ref ((zB z).size + 17)), (1, .ref (adK (zD z) w1)), (2, .int v2)] [] G I L := by
  have hz1 := hz.1
  refine am_iload_n hz1 dX6_isWord_20 2 rfl rfl ?_
  refine am_aload_n hz1 dX6_isWord_21 1 rfl rfl ?_
  refine am_callW hz cw_X6_85 [] [.int v2] (c_J0_length hw1) hw1 rfl rfl rfl ⟨Nat.le_refl _, Nat.le_refl _⟩ (Nat.le_of_ble_eq_true rfl) dX6_isWord_22 ?_
  refine am_icmp_ge (tgt := 57) hz1 dX6_isWord_25 (by decide) (fun c1 => ?_) (fun c1 => ?_)
  · replace h := h.1 c1
    refine am_iconst (v := 1) hz1 dX6_isWord_57 (by decide) ?_
    exact am_zreturn hz (by decide) dX6_isWord_58 h
  · replace h := h.2 c1
    refine am_aload_n hz1 dX6_isWord_28 0 rfl rfl ?_
    refine am_getR hz1 fl_X6_15 (ln_17 hG) (lk_17 hG) (lr_17_0 hG) rfl dX6_isWord_29 ?_
    refine am_aload_n hz1 dX6_isWord_32 0 rfl rfl ?_
    refine am_getI hz1 fl_X6_41 (ln_17 hG) (lk_17 hG) rfl dX6_isWord_33 ?_
    refine am_iload_n hz1 dX6_isWord_36 2 rfl rfl ?_
    refine am_iadd hz1 dX6_isWord_37 ?_
    obtain ⟨g2, h⟩ := h
    refine am_cVf hz cv_X6_56 [.int ((I 17 4) + v2)] [] (c_X10_at hG ((I 17 4) + v2) g2) (ln_1 hG) (lk_1 hG) rfl rfl rfl ⟨Nat.le_refl _, Nat.le_refl _⟩ (Nat.le_of_ble_eq_true rfl) dX6_isWord_38 ?_
    refine am_aload_n hz1 dX6_isWord_41 1 rfl rfl ?_
    refine am_iload_n hz1 dX6_isWord_42 2 rfl rfl ?_
    obtain ⟨g3, h⟩ := h
    refine am_callW hz cw_X6_90 [.int v2] [.int (q_tat I ((I 17 4) + v2))] (c_J0_charAtV hw1 g3) hw1 rfl rfl rfl ⟨Nat.le_refl _, Nat.le_refl _⟩ (Nat.le_of_ble_eq_true rfl) dX6_isWord_43 ?_
    refine am_icmp_eq (tgt := 51) hz1 dX6_isWord_46 (by decide) (fun c4 => ?_) (fun c4 => ?_)
    · replace h := h.1 c4
      refine am_iinc (v := v2 + 1) (lv' := [(2, .int (v2 + 1)), (0, .ref ((zB z).size + 17)), (1, .ref (adK (zD z) w1))]) hz1 dX6_isWord_51 2 rfl rfl rfl rfl ?_
      refine am_goto (tgt := 20) hz1 dX6_isWord_54 (by decide) ?_
      exact am_sub (lv' := [(0, .ref ((zB z).size + 17)), (1, .ref (adK (zD z) w1)), (2, .int (v2 + 1))]) [1, 2, 0] rfl h
    · replace h := h.2 c4
      refine am_iconst (v := 0) hz1 dX6_isWord_49 (by decide) ?_
      exact am_zreturn hz (by decide) dX6_isWord_50 h
set_option maxRecDepth 100000 in
set_option maxHeartbeats 4000000 in
theorem c_X6_isWord {l : Launch} {D : va_G} {B : Heap} {G : amG} {I : amI} {L : amL} {w1 : Nat} (hG : Lay G) (hw1 : w1 < 5)  (hc : cOk I) (hb : cBg I) : Fx l D B yX6_isWord cX6_isWord 3 (some .boolean) 5 [.ref (B.size + 17), .ref (adK D w1)] G I L (some (.int (bI (q_isw I w1)))) I L := by
  refine Mx.of (by decide) rfl rfl (fun z e1 e2 e3 hz => ?_)
  subst e1; subst e2; subst e3
  refine b_X6_isWord_0 hz hG hw1 ?_
  obtain ⟨m, T, a, hT⟩ := hc
  obtain ⟨b, hb, h4⟩ := hb
  have h8 := wL_8 w1 hw1
  refine ⟨fun q => ?_, fun q => ?_⟩
  · have main : scan (fun j => !decide (q_tat I (I 17 4 + nI j) = wB w1 j)) (fun _ => false) true (wL w1 - 0) 0 = q_isw I w1 → Wx z 0 0 20 [(0, .ref ((zB z).size + 17)), (1, .ref (adK (zD z) w1)), (2, .int (nI 0))] [] G I L := by
      refine for_up (P := fun j => scan (fun j => !decide (q_tat I (I 17 4 + nI j) = wB w1 j)) (fun _ => false) true (wL w1 - j) j = q_isw I w1 → Wx z 0 0 20 [(0, .ref ((zB z).size + 17)), (1, .ref (adK (zD z) w1)), (2, .int (nI j))] [] G I L) (n := wL w1) ?_ ?_ (Nat.zero_le _)
      · intro e
        rw [scan_0] at e
        refine b_X6_isWord_20 hz hG hw1 ⟨fun _ => ?_, fun w => absurd (nI_le (Nat.le_refl _) (by omega)) w⟩
        rw [← e]; exact ⟨rfl, rfl, rfl, rfl⟩
      · intro j hj ih e
        rw [scan_s hj] at e
        refine b_X6_isWord_20 hz hG hw1 ⟨fun w => absurd w (nI_ge hj (by omega)), fun _ => ⟨hT.tp, in_nI hj (by omega), ?_⟩⟩
        rw [cl_nI (n := j) (by omega), nI_1]
        refine ⟨fun w => ih (by rw [← e, if_neg (by rw [decide_eq_true w]; decide)]), fun w => ?_⟩
        rw [if_pos (by rw [decide_eq_false w]; rfl)] at e
        rw [← e]; exact ⟨rfl, rfl, rfl, rfl⟩
    exact main (by rw [q_isw, decide_eq_true q, Bool.true_and, Nat.sub_zero])
  · rw [q_isw, decide_eq_false q]; exact ⟨rfl, rfl, rfl, rfl⟩
set_option maxRecDepth 100000 in
set_option maxHeartbeats 4000000 in
theorem b_X6_readSign_0 {z : amZ} {post : amP} {G : amG} {I : amI} {L : amL} (hz : Go z cX6_readSign RX6 2 none 2 0 0 post) (hG : Lay G) {v1 : Int32} (h : (cOk I) ∧ (tpOk (skp I)) ∧ (((q_tat (skp I) ((skp I) 17 3)) = v1) → post none G (setI (skp I) 17 (upd ((skp I) 17) 3 (((skp I) 17 3) + (1 : Int32)))) L) ∧ ((¬ (q_tat (skp I) ((skp I) 17 3)) = v1) → post none G (q_blm (skp I) ((skp I) 17 3) (1 : Int32)) L)) : Wx z 0 0 0 [(0, .ref ((zB z).size + 17)), (1, .int v1)] [] G I L := by
  have hz1 := hz.1
  refine am_aload_n hz1 dX6_readSign_0 0 rfl rfl ?_
  obtain ⟨g1, h⟩ := h
  refine am_cVf hz cv_X6_60 [] [] (c_X6_skipBlanks hG  g1) (ln_17 hG) (lk_17 hG) rfl rfl rfl ⟨Nat.le_refl _, Nat.le_refl _⟩ (Nat.le_of_ble_eq_true rfl) dX6_readSign_1 ?_
  refine am_aload_n hz1 dX6_readSign_4 0 rfl rfl ?_
  refine am_getR hz1 fl_X6_15 (ln_17 hG) (lk_17 hG) (lr_17_0 hG) rfl dX6_readSign_5 ?_
  refine am_aload_n hz1 dX6_readSign_8 0 rfl rfl ?_
  refine am_getI hz1 fl_X6_23 (ln_17 hG) (lk_17 hG) rfl dX6_readSign_9 ?_
  obtain ⟨g2, h⟩ := h
  refine am_cVf hz cv_X6_56 [.int ((skp I) 17 3)] [] (c_X10_at hG ((skp I) 17 3) g2) (ln_1 hG) (lk_1 hG) rfl rfl rfl ⟨Nat.le_refl _, Nat.le_refl _⟩ (Nat.le_of_ble_eq_true rfl) dX6_readSign_12 ?_
  refine am_iload_n hz1 dX6_readSign_15 1 rfl rfl ?_
  refine am_icmp_eq (tgt := 31) hz1 dX6_readSign_16 (by decide) (fun c3 => ?_) (fun c3 => ?_)
  · replace h := h.1 c3
    refine am_aload_n hz1 dX6_readSign_31 0 rfl rfl ?_
    refine am_dup hz1 dX6_readSign_32 rfl ?_
    refine am_getI hz1 fl_X6_23 (ln_17 hG) (lk_17 hG) rfl dX6_readSign_33 ?_
    refine am_iconst (v := 1) hz1 dX6_readSign_36 (by decide) ?_
    refine am_iadd hz1 dX6_readSign_37 ?_
    refine am_putI hz1 fl_X6_23 (ln_17 hG) (lk_17 hG) rfl rfl (fun _ => rfl) dX6_readSign_38 ?_
    exact am_return hz dX6_readSign_41 h
  · replace h := h.2 c3
    refine am_aload_n hz1 dX6_readSign_19 0 rfl rfl ?_
    refine am_aload_n hz1 dX6_readSign_20 0 rfl rfl ?_
    refine am_getI hz1 fl_X6_23 (ln_17 hG) (lk_17 hG) rfl dX6_readSign_21 ?_
    refine am_iconst (v := 1) hz1 dX6_readSign_24 (by decide) ?_
    refine am_cVf hz cv_X6_44 [.int ((skp I) 17 3), .int 1] [] (c_X6_blame hG ((skp I) 17 3) (1 : Int32) ) (ln_17 hG) (lk_17 hG) rfl rfl rfl ⟨Nat.le_refl _, Nat.le_refl _⟩ (Nat.le_of_ble_eq_true rfl) dX6_readSign_25 ?_
    refine am_goto (tgt := 41) hz1 dX6_readSign_28 (by decide) ?_
    exact am_return hz dX6_readSign_41 h
set_option maxRecDepth 100000 in
set_option maxHeartbeats 4000000 in
theorem c_X6_readSign {l : Launch} {D : va_G} {B : Heap} {G : amG} {I : amI} {L : amL}  (hG : Lay G)  (v1 : Int32) (hc : cOk I) : Fx l D B yX6_readSign cX6_readSign 2 none 2 [.ref (B.size + 17), .int v1] G I L none (q_sgn I v1) L := by
  refine Mx.of (by decide) rfl rfl (fun z e1 e2 e3 hz => ?_)
  subst e1; subst e2; subst e3
  refine b_X6_readSign_0 hz hG ?_
  have hc2 := hc
  obtain ⟨m, T, a, hT⟩ := hc
  refine ⟨hc2, hT.nx.tp, fun q => ?_, fun q => ?_⟩
  · rw [q_sgn, if_pos q]; exact ⟨rfl, rfl, rfl, rfl⟩
  · rw [q_sgn, if_neg q]; exact ⟨rfl, rfl, rfl, rfl⟩
theorem rn_eq {p : Int32 → Bool} {b : Nat → Int32} {m k e : Nat} (hk : k ≤ e) (he : e ≤ m) (h1 : ∀ j, k ≤ j → j < e → p (b j) = true) (h2 : e < m → p (b e) = false) : rn p b m k = e := by
  obtain ⟨g1, g2, g3, g4⟩ := rn_b (p := p) (b := b) (m := m) _ k rfl (by omega)
  rcases Nat.lt_trichotomy (rn p b m k) e with q | q | q
  · have := h1 _ g1 q
    rw [g4 (by omega)] at this; cases this
  · exact q
  · have := g3 e hk q
    rw [h2 (by omega)] at this; cases this
/-- a word, told by its letters -/
theorem isw_M {I : amI} {m p w : Nat} {T : Nat → Int32} (hw : w < 5) (h : rdV I m T (rn isLt (tb m T) m p)) (hp : p ≤ m) (h4 : I 17 4 = nI p) : q_isw I w = wdM m T w p := by
  have hm := h.1
  have h8 := wL_8 w hw
  obtain ⟨g1, g2, g3, g4⟩ := rn_b (p := isLt) (b := tb m T) (m := m) _ p rfl hp
  have hsc : scan (fun j => !decide (q_tat I (I 17 4 + nI j) = wB w j)) (fun _ => false) true (wL w) 0 = decide (wdC m T w p = wL w) := by
    rw [Bool.eq_iff_iff, decide_eq_true_eq, wd_t, scan_tf]
    constructor
    · intro g j hj
      have := g j hj
      rw [h4, nI_add, h.byte (by omega)] at this
      exact Classical.byContradiction fun q => by rw [decide_eq_false q] at this; cases this
    · intro g j hj
      rw [h4, nI_add, h.byte (by omega), decide_eq_true (g j (by omega))]; rfl
  rw [q_isw, hsc, h.2.2.2.1, h4, wdM]
  have hsub : nI (rn isLt (tb m T) m p) - nI p = nI (rn isLt (tb m T) m p - p) := by
    have e : nI (rn isLt (tb m T) m p) = nI (rn isLt (tb m T) m p - p) + nI p := by rw [nI_add, Nat.sub_add_cancel g1]
    rw [e, Int32.add_sub_cancel]
  rw [hsub]
  cases hd : decide (wdC m T w p = wL w) with
  | false => rw [Bool.and_false, Bool.false_and]
  | true =>
    rw [Bool.and_true, Bool.true_and]
    have hall := wd_t.mp (of_decide_eq_true hd)
    have h1w := wL_pos w hw
    have hin : p + wL w ≤ m := by
      have := tb_lt (hall (wL w - 1) (by omega)) (wB_ne w hw _ (by omega)).1
      omega
    have hlet : ∀ j, p ≤ j → j < p + wL w → isLt (tb m T j) = true := fun j j1 j2 => by
      have := hall (j - p) (by omega)
      rw [show p + (j - p) = j by omega] at this
      rw [this]
      exact (wB_ne w hw _ (by omega)).2
    cases hl : isLt (tb m T (p + wL w)) with
    | false =>
      have := rn_eq (p := isLt) (b := tb m T) (m := m) (k := p) (e := p + wL w) (by omega) hin hlet (fun _ => hl)
      rw [this, Nat.add_sub_cancel_left, decide_eq_true rfl]; rfl
    | true =>
      have hlt : p + wL w < m := tb_lt rfl (fun q => by rw [q] at hl; exact absurd hl (by decide))
      have hne : ¬ rn isLt (tb m T) m p - p = wL w := fun q => by
        have e : rn isLt (tb m T) m p = p + wL w := by omega
        have := g4 (by omega)
        rw [e, hl] at this; cases this
      rw [decide_eq_false (fun q => hne ((nI_eq (by omega) (by omega)).mp q))]; rfl
