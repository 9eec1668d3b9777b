/-! THE REFERENCE READS: blanks, words, numbers -/
def tpO (I : amI) (m : Nat) (T : Nat → Int32) (a : Nat) : Prop := m ≤ 120 ∧ I 64 7 = nI m ∧ (∀ i, i < m → I 69 i &&& 255 = T i) ∧ I 64 8 = nI a ∧ a ≤ m ∧ ∀ i, i < m → ∃ b, b < 256 ∧ T i = nI b
def tOk (I : amI) : Prop := ∃ m T a, tpO I m T a
def skI (I : amI) : Nat := rn isBl (fun k => m_byte I (nI k)) (I 64 7).toNatClampNeg (I 64 8).toNatClampNeg
def nxt (I : amI) : amI := setI I 64 (upd (I 64) 8 (nI (skI I)))
def wdI (I : amI) (w : Nat) : Bool := decide (scan (fun j => !decide (m_byte I (nI (skI I + j)) = wB w j)) id (wL w) (wL w) 0 = wL w) && !isLt (m_byte I (nI (skI I + wL w)))
/-- only what is read changes -/
def frN (I I1 : amI) : Prop := (∀ q, q ≠ 64 → I1 q = I q) ∧ ∀ k, k ≠ 8 → k ≠ 9 → k ≠ 10 → k ≠ 11 → I1 64 k = I 64 k
def frR (I I1 : amI) : Prop := (∀ q, q ≠ 64 → q ≠ 70 → q ≠ 71 → I1 q = I q) ∧ ∀ k, k ≠ 8 → k ≠ 9 → k ≠ 10 → k ≠ 11 → k ≠ 12 → I1 64 k = I 64 k
theorem frN_r {I : amI} : frN I I := ⟨fun _ _ => rfl, fun _ _ _ _ _ => rfl⟩
theorem frN_t {I I1 I2 : amI} (h : frN I I1) (h2 : frN I1 I2) : frN I I2 := ⟨fun q hq => by rw [h2.1 q hq, h.1 q hq], fun k a b c d => by rw [h2.2 k a b c d, h.2 k a b c d]⟩
theorem frR_r {I : amI} : frR I I := ⟨fun _ _ _ _ => rfl, fun _ _ _ _ _ _ => rfl⟩
theorem frR_t {I I1 I2 : amI} (h : frR I I1) (h2 : frR I1 I2) : frR I I2 := ⟨fun q a b c => by rw [h2.1 q a b c, h.1 q a b c], fun k a b c d e => by rw [h2.2 k a b c d e, h.2 k a b c d e]⟩
theorem frN.R {I I1 : amI} (h : frN I I1) : frR I I1 := ⟨fun q a _ _ => h.1 q a, fun k a b c d _ => h.2 k a b c d⟩
theorem frN_64 {I : amI} {k : Nat} {x : Int32} (h : k = 8 ∨ k = 9 ∨ k = 10 ∨ k = 11) : frN I (setI I 64 (upd (I 64) k x)) := ⟨fun q hq => setI_n hq, fun j a b c d => by rw [setI_s, upd_n (by omega)]⟩
theorem frR_64 {I : amI} {k : Nat} {x : Int32} (h : k = 8 ∨ k = 9 ∨ k = 10 ∨ k = 11 ∨ k = 12) : frR I (setI I 64 (upd (I 64) k x)) := ⟨fun q hq _ _ => setI_n hq, fun j a b c d e => by rw [setI_s, upd_n (by omega)]⟩
theorem frR_70 {I : amI} {p : Nat} {f : Nat → Int32} (h : p = 70 ∨ p = 71) : frR I (setI I p f) := ⟨fun q _ a b => setI_n (by omega), fun j _ _ _ _ _ => by rw [setI_n (by omega)]⟩
theorem tpO.mv {I I1 : amI} {m a a' : Nat} {T : Nat → Int32} (h : tpO I m T a) (hf : frR I I1) (h8 : I1 64 8 = nI a') (ha : a' ≤ m) : tpO I1 m T a' :=
  ⟨h.1, by rw [hf.2 7 (by decide) (by decide) (by decide) (by decide) (by decide)]; exact h.2.1, fun i hi => by rw [hf.1 69 (by decide) (by decide) (by decide)]; exact h.2.2.1 i hi, h8, ha, h.2.2.2.2.2⟩
theorem tpO.ok {I : amI} {m a : Nat} {T : Nat → Int32} (h : tpO I m T a) : tOk I := ⟨m, T, a, h⟩
theorem tpO.mt {I : amI} {m a : Nat} {T : Nat → Int32} (h : tpO I m T a) : mtOk I := ⟨m, h.1, h.2.1⟩
theorem tpO.byte {I : amI} {m a k : Nat} {T : Nat → Int32} (h : tpO I m T a) (hk : k < 2 ^ 31) : m_byte I (nI k) = tb m T k := by
  have hm := h.1
  rw [m_byte, h.2.1, tb]
  by_cases e : k < m
  · rw [if_neg (nI_ge e (by omega)), if_pos e, cl_nI hk, h.2.2.1 k e]
  · rw [if_pos (nI_le (by omega) hk), if_neg e]
theorem rn_c {p : Int32 → Bool} {b b' : Nat → Int32} {m k : Nat} (h : ∀ j, j < m → b j = b' j) : rn p b m k = rn p b' m k := by
  rw [rn, rn]
  by_cases hk : k ≤ m
  · exact scan_cong _ _ (fun j h1 h2 => ⟨by rw [h j (by omega)], rfl⟩)
  · rw [Nat.sub_eq_zero_of_le (by omega)]; rfl
theorem tpO.skE {I : amI} {m a : Nat} {T : Nat → Int32} (h : tpO I m T a) : skI I = sk m T a := by
  have hm := h.1
  have ha := h.2.2.2.2.1
  rw [skI, h.2.1, h.2.2.2.1, cl_nI (by omega), cl_nI (by omega)]
  exact rn_c (fun j hj => h.byte (by omega))
theorem tpO.wd {I : amI} {m a w : Nat} {T : Nat → Int32} (h : tpO I m T a) (hw : w < 5) : wdI I w = wdM m T w (sk m T a) := by
  have hm := h.1
  have h8 := wL_8 w hw
  obtain ⟨g1, g2⟩ : a ≤ sk m T a ∧ sk m T a ≤ m := rn_le h.2.2.2.2.1
  rw [wdI, h.skE, wdM, h.byte (by omega), wdC]
  rw [scan_cong (q := fun j => !decide (tb m T (sk m T a + j) = wB w j)) (s := id) (wL w) 0 (fun j _ hj => ⟨by rw [h.byte (by omega)], rfl⟩)]
theorem sk_le {m a : Nat} {T : Nat → Int32} (h : a ≤ m) : a ≤ sk m T a ∧ sk m T a ≤ m := rn_le h
theorem nxt_8 {I : amI} : nxt I 64 8 = nI (skI I) := by rw [nxt, setI_s, upd_s]
theorem nxt_fr {I : amI} : frN I (nxt I) := frN_64 (Or.inl rfl)
theorem tpO.nx {I : amI} {m a : Nat} {T : Nat → Int32} (h : tpO I m T a) : tpO (nxt I) m T (sk m T a) := h.mv nxt_fr.R (by rw [nxt_8, h.skE]) (sk_le h.2.2.2.2.1).2
theorem nxt_idem {I : amI} {m a : Nat} {T : Nat → Int32} (h : tpO I m T a) : nxt (nxt I) = nxt I := by
  have h2 := h.nx.skE
  rw [show sk m T (sk m T a) = sk m T a from rn_idem h.2.2.2.2.1] at h2
  rw [nxt, h2]
  conv => lhs; rw [nxt]
  rw [setI_ss, setI_s, upd_upd, nxt, h.skE]
theorem nxt_at {I : amI} {m a : Nat} {T : Nat → Int32} (h : tpO I m T a) : nxt I = setI I 64 (upd (I 64) 8 (nI (sk m T a))) := by rw [nxt, h.skE]
theorem isIn_lt {x : Int32} : m_isIn x.toInt64 97 122 = isLt x := by
  rw [m_isIn, isLt]
  congr 1
  · apply decide_eq_decide.mpr
    rw [Int64.lt_iff_toInt_lt, Int32.toInt_toInt64, Int32.le_iff_toInt_le, show (97 : Int64).toInt = 97 from rfl, show (97 : Int32).toInt = 97 from rfl]
    omega
  · apply decide_eq_decide.mpr
    rw [Int64.lt_iff_toInt_lt, Int32.toInt_toInt64, Int32.le_iff_toInt_le, show (122 : Int64).toInt = 122 from rfl, show (122 : Int32).toInt = 122 from rfl]
    omega
theorem isIn_dg {x : Int32} : m_isIn x.toInt64 48 57 = isDg x := by
  rw [m_isIn, isDg]
  congr 1
  · apply decide_eq_decide.mpr
    rw [Int64.lt_iff_toInt_lt, Int32.toInt_toInt64, Int32.le_iff_toInt_le, show (48 : Int64).toInt = 48 from rfl, show (48 : Int32).toInt = 48 from rfl]
    omega
  · apply decide_eq_decide.mpr
    rw [Int64.lt_iff_toInt_lt, Int32.toInt_toInt64, Int32.le_iff_toInt_le, show (57 : Int64).toInt = 57 from rfl, show (57 : Int32).toInt = 57 from rfl]
    omega
theorem isIn_nI {v lo hi : Nat} (hv : v < 2 ^ 31) (hl : lo < 2 ^ 31) (hh : hi < 2 ^ 31) : m_isIn (nI v).toInt64 (nI lo).toInt64 (nI hi).toInt64 = decide (lo ≤ v ∧ v ≤ hi) := by
  rw [m_isIn, Bool.eq_iff_iff, Bool.and_eq_true, decide_eq_true_eq, decide_eq_true_eq, decide_eq_true_eq, Int64.lt_iff_toInt_lt, Int64.lt_iff_toInt_lt, Int32.toInt_toInt64, Int32.toInt_toInt64, Int32.toInt_toInt64, nI_toInt hv, nI_toInt hl, nI_toInt hh]
  omega
theorem in_at {n : Nat} (h : n ≤ 200) : vp_in (nI n) 100000 := in_nI (by omega) (by decide)
set_option maxRecDepth 100000 in
set_option maxHeartbeats 4000000 in
theorem b_X12_next_0 {z : amZ} {post : amP} {G : amG} {I : amI} {L : amL} (hz : Go z cX12_next RX12 1 (some .int) 1 0 0 post) (hG : Lay G)  (h : (mtOk I) ∧ (vp_in (I 64 8) 100000) ∧ ((¬ (m_byte I (I 64 8)) = (32 : Int32)) → (mtOk I) ∧ (vp_in (I 64 8) 100000) ∧ post (some (.int (m_byte I (I 64 8)))) G I L) ∧ (((m_byte I (I 64 8)) = (32 : Int32)) → Wx z 0 0 0 [(0, .ref ((zB z).size + 64))] [] G (setI I 64 (upd (I 64) 8 ((I 64 8) + (1 : Int32)))) L)) : Wx z 0 0 0 [(0, .ref ((zB z).size + 64))] [] G I L := by
  have hz1 := hz.1
  refine am_aload_n hz1 dX12_next_0 0 rfl rfl ?_
  refine am_aload_n hz1 dX12_next_1 0 rfl rfl ?_
  refine am_getI hz1 fl_X12_133 (ln_64 hG) (lk_64 hG) rfl dX12_next_2 ?_
  obtain ⟨g1, h⟩ := h
  obtain ⟨g2, h⟩ := h
  refine am_cVf hz cv_X12_136 [.int (I 64 8)] [] (c_X12_byteAt hG (I 64 8) g1 g2) (ln_64 hG) (lk_64 hG) rfl rfl rfl ⟨Nat.le_refl _, Nat.le_refl _⟩ (Nat.le_of_ble_eq_true rfl) dX12_next_5 ?_
  refine am_bipush (v := 32) hz1 dX12_next_8 (by decide) ?_
  refine am_icmp_ne (tgt := 26) hz1 dX12_next_10 (by decide) (fun c3 => ?_) (fun c3 => ?_)
  · replace h := h.1 c3
    refine am_aload_n hz1 dX12_next_26 0 rfl rfl ?_
    refine am_aload_n hz1 dX12_next_27 0 rfl rfl ?_
    refine am_getI hz1 fl_X12_133 (ln_64 hG) (lk_64 hG) rfl dX12_next_28 ?_
    obtain ⟨g4, h⟩ := h
    obtain ⟨g5, h⟩ := h
    refine am_cVf hz cv_X12_136 [.int (I 64 8)] [] (c_X12_byteAt hG (I 64 8) g4 g5) (ln_64 hG) (lk_64 hG) rfl rfl rfl ⟨Nat.le_refl _, Nat.le_refl _⟩ (Nat.le_of_ble_eq_true rfl) dX12_next_31 ?_
    exact am_ireturn hz dX12_next_34 h
  · replace h := h.2 c3
    refine am_aload_n hz1 dX12_next_13 0 rfl rfl ?_
    refine am_dup hz1 dX12_next_14 rfl ?_
    refine am_getI hz1 fl_X12_133 (ln_64 hG) (lk_64 hG) rfl dX12_next_15 ?_
    refine am_iconst (v := 1) hz1 dX12_next_18 (by decide) ?_
    refine am_iadd hz1 dX12_next_19 ?_
    refine am_putI hz1 fl_X12_133 (ln_64 hG) (lk_64 hG) rfl rfl (fun _ => rfl) dX12_next_20 ?_
    refine am_goto (tgt := 0) hz1 dX12_next_23 (by decide) ?_
    exact h
set_option maxHeartbeats 4000000 in
theorem c_X12_next {l : Launch} {D : va_G} {B : Heap} {G : amG} {I : amI} {L : amL} (hG : Lay G) (hk : tOk I) : Fx l D B yX12_next cX12_next 1 (some .int) 1 [.ref (B.size + 64)] G I L (some (.int (m_byte I (nI (skI I))))) (nxt I) L := by
  obtain ⟨m, T, a, hT⟩ := hk
  have hm := hT.1
  have ha := hT.2.2.2.2.1
  obtain ⟨s1, s2⟩ := sk_le (m := m) (T := T) ha
  rw [nxt_at hT, hT.skE, hT.byte (by omega)]
  refine Mx.of (by decide) rfl rfl (fun z e1 e2 e3 hz => ?_)
  subst e1; subst e2; subst e3
  have main : ∀ d k, m - k = d → a ≤ k → k ≤ m → sk m T k = sk m T a → Wx z 0 0 0 [(0, .ref ((zB z).size + 64))] [] G (setI I 64 (upd (I 64) 8 (nI k))) L := by
    intro d
    induction d with
    | zero =>
      intro k h1 h2 h3 h4
      have hK : tpO (setI I 64 (upd (I 64) 8 (nI k))) m T k := hT.mv (frR_64 (Or.inl rfl)) (by rw [setI_s, upd_s]) h3
      refine b_X12_next_0 hz hG ⟨hK.mt, by rw [hK.2.2.2.1]; exact in_at (by omega), ?_⟩
      rw [hK.2.2.2.1, hK.byte (by omega), tb_m (by omega)]
      refine ⟨fun _ => ⟨hK.mt, by exact in_at (by omega), ?_⟩, fun q => absurd q (by decide)⟩
      have hkm : k = m := by omega
      have e : sk m T a = m := by rw [← h4, show sk m T k = m from rn_m (by omega)]
      rw [e, tb_m (Nat.le_refl _), hkm]
      exact ⟨rfl, rfl, rfl, rfl⟩
    | succ d ih =>
      intro k h1 h2 h3 h4
      have hK : tpO (setI I 64 (upd (I 64) 8 (nI k))) m T k := hT.mv (frR_64 (Or.inl rfl)) (by rw [setI_s, upd_s]) h3
      have hs : sk m T k = if isBl (tb m T k) = true then sk m T (k + 1) else k := rn_s (by omega)
      refine b_X12_next_0 hz hG ⟨hK.mt, by rw [hK.2.2.2.1]; exact in_at (by omega), ?_⟩
      rw [hK.2.2.2.1, hK.byte (by omega), setI_ss, setI_s, upd_upd, nI_1]
      refine ⟨fun q => ⟨hK.mt, by exact in_at (by omega), ?_⟩, fun q => ?_⟩
      · rw [if_neg (by rw [isBl, decide_eq_false q]; decide)] at hs
        rw [← h4, hs]
        exact ⟨rfl, rfl, rfl, rfl⟩
      · rw [if_pos (by rw [isBl, decide_eq_true q])] at hs
        exact ih (k + 1) (by omega) (by omega) (by omega) (by rw [← hs, h4])
  have := main _ a rfl (Nat.le_refl _) ha rfl
  rw [← hT.2.2.2.1, upd_id, setI_id] at this
  exact this
set_option maxRecDepth 100000 in
set_option maxHeartbeats 4000000 in
theorem b_X12_isWord_0 {z : amZ} {post : amP} {G : amG} {I : amI} {L : amL} (hz : Go z cX12_isWord RX12 4 (some .boolean) 5 0 0 post) (hG : Lay G) {w1 : Nat} (hw1 : w1 < 5)  (h : (tOk I) ∧ Wx z 0 0 7 [(0, .ref ((zB z).size + 64)), (1, .ref (adK (zD z) w1)), (3, .int 0)] [] G (nxt I) L) : Wx z 0 0 0 [(0, .ref ((zB z).size + 64)), (1, .ref (adK (zD z) w1))] [] G I L := by
  have hz1 := hz.1
  refine am_aload_n hz1 dX12_isWord_0 0 rfl rfl ?_
  obtain ⟨g1, h⟩ := h
  refine am_cVf hz cv_X12_142 [] [] (c_X12_next hG  g1) (ln_64 hG) (lk_64 hG) rfl rfl rfl ⟨Nat.le_refl _, Nat.le_refl _⟩ (Nat.le_of_ble_eq_true rfl) dX12_isWord_1 ?_
  refine am_istore_n (lv' := [(2, .int (m_byte I (nI (skI I)))), (0, .ref ((zB z).size + 64)), (1, .ref (adK (zD z) w1))]) hz1 dX12_isWord_4 rfl rfl rfl ?_
  refine am_iconst (v := 0) hz1 dX12_isWord_5 (by decide) ?_
  refine am_istore_n (lv' := [(3, .int 0), (2, .int (m_byte I (nI (skI I)))), (0, .ref ((zB z).size + 64)), (1, .ref (adK (zD z) w1))]) hz1 dX12_isWord_6 rfl rfl rfl ?_
  exact am_sub (lv' := [(0, .ref ((zB z).size + 64)), (1, .ref (adK (zD z) w1)), (3, .int 0)]) [2, 3, 0] rfl h
set_option maxRecDepth 100000 in
set_option maxHeartbeats 4000000 in
theorem b_X12_isWord_7 {z : amZ} {post : amP} {G : amG} {I : amI} {L : amL} (hz : Go z cX12_isWord RX12 4 (some .boolean) 5 0 0 post) (hG : Lay G) {w1 : Nat} (hw1 : w1 < 5) {v3 : Int32} (h : (((nI (wL w1)) ≤ v3) → ((¬ v3 = (nI (wL w1))) → post (some (.int 0)) G I L) ∧ ((v3 = (nI (wL w1))) → (mtOk I) ∧ (vp_in ((I 64 8) + v3) 100000) ∧ ((m_isIn ((m_byte I ((I 64 8) + v3)).toInt64) (97 : Int64) (122 : Int64) = true) → post (some (.int 0)) G I L) ∧ ((m_isIn ((m_byte I ((I 64 8) + v3)).toInt64) (97 : Int64) (122 : Int64) = false) → post (some (.int 1)) G I L))) ∧ ((¬ (nI (wL w1)) ≤ v3) → (mtOk I) ∧ (vp_in ((I 64 8) + v3) 100000) ∧ vp_in v3 (wL w1) ∧ ((¬ (m_byte I ((I 64 8) + v3)) = (wB w1 v3.toNatClampNeg)) → ((¬ v3 = (nI (wL w1))) → post (some (.int 0)) G I L) ∧ ((v3 = (nI (wL w1))) → (mtOk I) ∧ (vp_in ((I 64 8) + v3) 100000) ∧ ((m_isIn ((m_byte I ((I 64 8) + v3)).toInt64) (97 : Int64) (122 : Int64) = true) → post (some (.int 0)) G I L) ∧ ((m_isIn ((m_byte I ((I 64 8) + v3)).toInt64) (97 : Int64) (122 : Int64) = false) → post (some (.int 1)) G I L))) ∧ (((m_byte I ((I 64 8) + v3)) = (wB w1 v3.toNatClampNeg)) → Wx z 0 0 7 [(0, .ref ((zB z).size + 64)), (1, .ref (adK (zD z) w1)), (3, .int (v3 + 1))] [] G I L))) : Wx z 0 0 7 [(0, .ref ((zB z).size + 64)), (1, .ref (adK (zD z) w1)), (3, .int v3)] [] G I L := by
  have hz1 := hz.1
  refine am_iload_n hz1 dX12_isWord_7 2 rfl rfl ?_
  refine am_aload_n hz1 dX12_isWord_8 1 rfl rfl ?_
  refine am_callW hz cw_X12_144 [] [.int v3] (c_J0_length hw1) hw1 rfl rfl rfl ⟨Nat.le_refl _, Nat.le_refl _⟩ (Nat.le_of_ble_eq_true rfl) dX12_isWord_9 ?_
  refine am_icmp_ge (tgt := 39) hz1 dX12_isWord_12 (by decide) (fun c1 => ?_) (fun c1 => ?_)
  · replace h := h.1 c1
    refine am_iload_n hz1 dX12_isWord_39 2 rfl rfl ?_
    refine am_aload_n hz1 dX12_isWord_40 1 rfl rfl ?_
    refine am_callW hz cw_X12_144 [] [.int v3] (c_J0_length hw1) hw1 rfl rfl rfl ⟨Nat.le_refl _, Nat.le_refl _⟩ (Nat.le_of_ble_eq_true rfl) dX12_isWord_41 ?_
    refine am_icmp_ne (tgt := 74) hz1 dX12_isWord_44 (by decide) (fun c2 => ?_) (fun c2 => ?_)
    · replace h := h.1 c2
      refine am_iconst (v := 0) hz1 dX12_isWord_74 (by decide) ?_
      exact am_zreturn hz (by decide) dX12_isWord_75 h
    · replace h := h.2 c2
      refine am_aload_n hz1 dX12_isWord_47 0 rfl rfl ?_
      refine am_aload_n hz1 dX12_isWord_48 0 rfl rfl ?_
      refine am_getI hz1 fl_X12_133 (ln_64 hG) (lk_64 hG) rfl dX12_isWord_49 ?_
      refine am_iload_n hz1 dX12_isWord_52 2 rfl rfl ?_
      refine am_iadd hz1 dX12_isWord_53 ?_
      obtain ⟨g3, h⟩ := h
      obtain ⟨g4, h⟩ := h
      refine am_cVf hz cv_X12_136 [.int ((I 64 8) + v3)] [] (c_X12_byteAt hG ((I 64 8) + v3) g3 g4) (ln_64 hG) (lk_64 hG) rfl rfl rfl ⟨Nat.le_refl _, Nat.le_refl _⟩ (Nat.le_of_ble_eq_true rfl) dX12_isWord_54 ?_
      refine am_i2l hz1 dX12_isWord_57 ?_
      refine am_ldc2 hz1 kc_X12_153 dX12_isWord_58 ?_
      refine am_ldc2 hz1 kc_X12_155 dX12_isWord_61 ?_
      refine am_cSf hz ct_X12_82 [.long ((m_byte I ((I 64 8) + v3)).toInt64), .long (97 : Int64), .long (122 : Int64)] [] (c_X12_isIn hG ((m_byte I ((I 64 8) + v3)).toInt64) (97 : Int64) (122 : Int64) ) rfl rfl rfl ⟨Nat.le_refl _, Nat.le_refl _⟩ (Nat.le_of_ble_eq_true rfl) dX12_isWord_64 ?_
      refine am_ifb_ne (tgt := 74) hz1 dX12_isWord_67 (by decide) (fun c5 => ?_) (fun c5 => ?_)
      · replace h := h.1 c5
        refine am_iconst (v := 0) hz1 dX12_isWord_74 (by decide) ?_
        exact am_zreturn hz (by decide) dX12_isWord_75 h
      · replace h := h.2 c5
        refine am_iconst (v := 1) hz1 dX12_isWord_70 (by decide) ?_
        refine am_goto (tgt := 75) hz1 dX12_isWord_71 (by decide) ?_
        exact am_zreturn hz (by decide) dX12_isWord_75 h
  · replace h := h.2 c1
    refine am_aload_n hz1 dX12_isWord_15 0 rfl rfl ?_
    refine am_aload_n hz1 dX12_isWord_16 0 rfl rfl ?_
    refine am_getI hz1 fl_X12_133 (ln_64 hG) (lk_64 hG) rfl dX12_isWord_17 ?_
    refine am_iload_n hz1 dX12_isWord_20 2 rfl rfl ?_
    refine am_iadd hz1 dX12_isWord_21 ?_
    obtain ⟨g6, h⟩ := h
    obtain ⟨g7, h⟩ := h
    refine am_cVf hz cv_X12_136 [.int ((I 64 8) + v3)] [] (c_X12_byteAt hG ((I 64 8) + v3) g6 g7) (ln_64 hG) (lk_64 hG) rfl rfl rfl ⟨Nat.le_refl _, Nat.le_refl _⟩ (Nat.le_of_ble_eq_true rfl) dX12_isWord_22 ?_
    refine am_aload_n hz1 dX12_isWord_25 1 rfl rfl ?_
    refine am_iload_n hz1 dX12_isWord_26 2 rfl rfl ?_
    obtain ⟨g8, h⟩ := h
    refine am_callW hz cw_X12_149 [.int v3] [.int (m_byte I ((I 64 8) + v3))] (c_J0_charAtV hw1 g8) hw1 rfl rfl rfl ⟨Nat.le_refl _, Nat.le_refl _⟩ (Nat.le_of_ble_eq_true rfl) dX12_isWord_27 ?_
    refine am_icmp_ne (tgt := 39) hz1 dX12_isWord_30 (by decide) (fun c9 => ?_) (fun c9 => ?_)
    · replace h := h.1 c9
      refine am_iload_n hz1 dX12_isWord_39 2 rfl rfl ?_
      refine am_aload_n hz1 dX12_isWord_40 1 rfl rfl ?_
      refine am_callW hz cw_X12_144 [] [.int v3] (c_J0_length hw1) hw1 rfl rfl rfl ⟨Nat.le_refl _, Nat.le_refl _⟩ (Nat.le_of_ble_eq_true rfl) dX12_isWord_41 ?_
      refine am_icmp_ne (tgt := 74) hz1 dX12_isWord_44 (by decide) (fun c10 => ?_) (fun c10 => ?_)
      · replace h := h.1 c10
        refine am_iconst (v := 0) hz1 dX12_isWord_74 (by decide) ?_
        exact am_zreturn hz (by decide) dX12_isWord_75 h
      · replace h := h.2 c10
        refine am_aload_n hz1 dX12_isWord_47 0 rfl rfl ?_
        refine am_aload_n hz1 dX12_isWord_48 0 rfl rfl ?_
        refine am_getI hz1 fl_X12_133 (ln_64 hG) (lk_64 hG) rfl dX12_isWord_49 ?_
        refine am_iload_n hz1 dX12_isWord_52 2 rfl rfl ?_
        refine am_iadd hz1 dX12_isWord_53 ?_
        obtain ⟨g11, h⟩ := h
        obtain ⟨g12, h⟩ := h
        refine am_cVf hz cv_X12_136 [.int ((I 64 8) + v3)] [] (c_X12_byteAt hG ((I 64 8) + v3) g11 g12) (ln_64 hG) (lk_64 hG) rfl rfl rfl ⟨Nat.le_refl _, Nat.le_refl _⟩ (Nat.le_of_ble_eq_true rfl) dX12_isWord_54 ?_
        refine am_i2l hz1 dX12_isWord_57 ?_
        refine am_ldc2 hz1 kc_X12_153 dX12_isWord_58 ?_
        refine am_ldc2 hz1 kc_X12_155 dX12_isWord_61 ?_
        refine am_cSf hz ct_X12_82 [.long ((m_byte I ((I 64 8) + v3)).toInt64), .long (97 : Int64), .long (122 : Int64)] [] (c_X12_isIn hG ((m_byte I ((I 64 8) + v3)).toInt64) (97 : Int64) (122 : Int64) ) rfl rfl rfl ⟨Nat.le_refl _, Nat.le_refl _⟩ (Nat.le_of_ble_eq_true rfl) dX12_isWord_64 ?_
        refine am_ifb_ne (tgt := 74) hz1 dX12_isWord_67 (by decide) (fun c13 => ?_) (fun c13 => ?_)
        · replace h := h.1 c13
          refine am_iconst (v := 0) hz1 dX12_isWord_74 (by decide) ?_
          exact am_zreturn hz (by decide) dX12_isWord_75 h
        · replace h := h.2 c13
          refine am_iconst (v := 1) hz1 dX12_isWord_70 (by decide) ?_
          refine am_goto (tgt := 75) hz1 dX12_isWord_71 (by decide) ?_
          exact am_zreturn hz (by decide) dX12_isWord_75 h
    · replace h := h.2 c9
      refine am_iinc (v := v3 + 1) (lv' := [(3, .int (v3 + 1)), (0, .ref ((zB z).size + 64)), (1, .ref (adK (zD z) w1))]) hz1 dX12_isWord_33 2 rfl rfl rfl rfl ?_
      refine am_goto (tgt := 7) hz1 dX12_isWord_36 (by decide) ?_
      exact am_sub (lv' := [(0, .ref ((zB z).size + 64)), (1, .ref (adK (zD z) w1)), (3, .int (v3 + 1))]) [1, 2, 0] rfl h
set_option maxHeartbeats 4000000 in
theorem c_X12_isWord {l : Launch} {D : va_G} {B : Heap} {G : amG} {I : amI} {L : amL} {w1 : Nat} (hG : Lay G) (hw1 : w1 < 5) (hk : tOk I) : Fx l D B yX12_isWord cX12_isWord 4 (some .boolean) 5 [.ref (B.size + 64), .ref (adK D w1)] G I L (some (.int (bI (wdI I w1)))) (nxt I) L := by
  obtain ⟨m, T, a, hT⟩ := hk
  have hm := hT.1
  have ha := hT.2.2.2.2.1
  obtain ⟨s1, s2⟩ := sk_le (m := m) (T := T) ha
  have h8 := wL_8 w1 hw1
  rw [hT.wd hw1]
  refine Mx.of (by decide) rfl rfl (fun z e1 e2 e3 hz => ?_)
  subst e1; subst e2; subst e3
  refine b_X12_isWord_0 hz hG hw1 ⟨hT.ok, ?_⟩
  have hN := hT.nx
  have main : ∀ d j, wL w1 - j = d → j ≤ wL w1 → scan (fun j => !decide (tb m T (sk m T a + j) = wB w1 j)) id (wL w1) (wL w1 - j) j = wdC m T w1 (sk m T a) → Wx z 0 0 7 [(0, .ref ((zB z).size + 64)), (1, .ref (adK (zD z) w1)), (3, .int (nI j))] [] G (nxt I) L := by
    intro d
    induction d with
    | zero =>
      intro j h1 h2 h3
      have ej : j = wL w1 := by omega
      subst ej
      rw [Nat.sub_self] at h3
      have h4 : wdC m T w1 (sk m T a) = wL w1 := h3.symm
      refine b_X12_isWord_7 hz hG hw1 ⟨fun _ => ⟨fun q => absurd rfl q, fun _ => ?_⟩, fun q => absurd (nI_le (Nat.le_refl _) (by omega)) q⟩
      rw [hN.2.2.2.1, nI_add, hN.byte (by omega), isIn_lt]
      refine ⟨hN.mt, by exact in_at (by omega), fun q => ?_, fun q => ?_⟩
      · rw [wdM, q, Bool.not_true, Bool.and_false]; exact ⟨rfl, rfl, rfl, rfl⟩
      · rw [wdM, q, h4, decide_eq_true rfl]; exact ⟨rfl, rfl, rfl, rfl⟩
    | succ d ih =>
      intro j h1 h2 h3
      rw [scan_s (by omega)] at h3
      refine b_X12_isWord_7 hz hG hw1 ⟨fun q => absurd q (nI_ge (show j < wL w1 by omega) (by omega)), fun _ => ?_⟩
      rw [hN.2.2.2.1, nI_add, hN.byte (by omega), cl_nI (n := j) (by omega), nI_1]
      refine ⟨hN.mt, by exact in_at (by omega), in_nI (by omega) (by omega), fun q => ⟨fun _ => ?_, fun q2 => absurd ((nI_eq (by omega) (by omega)).mp q2) (by omega)⟩, fun q => ?_⟩
      · rw [if_pos (by rw [decide_eq_false q]; rfl)] at h3
        have h4 : j = wdC m T w1 (sk m T a) := h3
        rw [wdM, decide_eq_false (by omega)]; exact ⟨rfl, rfl, rfl, rfl⟩
      · rw [if_neg (by rw [decide_eq_true q]; decide)] at h3
        exact ih (j + 1) (by omega) (by omega) h3
  exact main _ 0 rfl (Nat.zero_le _) rfl
set_option maxRecDepth 100000 in
set_option maxHeartbeats 4000000 in
theorem b_X12_readsNumber_0 {z : amZ} {post : amP} {G : amG} {I : amI} {L : amL} (hz : Go z cX12_readsNumber RX12 5 (some .boolean) 2 0 0 post) (hG : Lay G) {v1 : Int32} {v2 : Int32} (h : (tOk I) ∧ ((m_isIn ((m_byte I (nI (skI I))).toInt64) (48 : Int64) (57 : Int64) = true) → Wx z 0 0 40 [(0, .ref ((zB z).size + 64)), (1, .int v1), (2, .int v2), (4, .int 0)] [] G (setI (nxt I) 64 (upd ((nxt I) 64) 11 ((nxt I) 64 8))) L) ∧ ((m_isIn ((m_byte I (nI (skI I))).toInt64) (48 : Int64) (57 : Int64) = false) → post (some (.int (bI (false)))) G (setI (setI (nxt I) 64 (upd ((nxt I) 64) 11 ((nxt I) 64 8))) 64 (upd ((setI (nxt I) 64 (upd ((nxt I) 64) 11 ((nxt I) 64 8))) 64) 9 (8 * ((setI (nxt I) 64 (upd ((nxt I) 64) 11 ((nxt I) 64 8))) 64 8) + (1 : Int32)))) L)) : Wx z 0 0 0 [(0, .ref ((zB z).size + 64)), (1, .int v1), (2, .int v2)] [] G I L := by
  have hz1 := hz.1
  refine am_aload_n hz1 dX12_readsNumber_0 0 rfl rfl ?_
  obtain ⟨g1, h⟩ := h
  refine am_cVf hz cv_X12_142 [] [] (c_X12_next hG  g1) (ln_64 hG) (lk_64 hG) rfl rfl rfl ⟨Nat.le_refl _, Nat.le_refl _⟩ (Nat.le_of_ble_eq_true rfl) dX12_readsNumber_1 ?_
  refine am_istore_n (lv' := [(3, .int (m_byte I (nI (skI I)))), (0, .ref ((zB z).size + 64)), (1, .int v1), (2, .int v2)]) hz1 dX12_readsNumber_4 rfl rfl rfl ?_
  refine am_aload_n hz1 dX12_readsNumber_5 1 rfl rfl ?_
  refine am_aload_n hz1 dX12_readsNumber_6 1 rfl rfl ?_
  refine am_getI hz1 fl_X12_133 (ln_64 hG) (lk_64 hG) rfl dX12_readsNumber_7 ?_
  refine am_putI hz1 fl_X12_157 (ln_64 hG) (lk_64 hG) rfl rfl (fun _ => rfl) dX12_readsNumber_10 ?_
  refine am_iload_n hz1 dX12_readsNumber_13 0 rfl rfl ?_
  refine am_i2l hz1 dX12_readsNumber_14 ?_
  refine am_ldc2 hz1 kc_X12_160 dX12_readsNumber_15 ?_
  refine am_ldc2 hz1 kc_X12_162 dX12_readsNumber_18 ?_
  refine am_cSf hz ct_X12_82 [.long ((m_byte I (nI (skI I))).toInt64), .long (48 : Int64), .long (57 : Int64)] [] (c_X12_isIn hG ((m_byte I (nI (skI I))).toInt64) (48 : Int64) (57 : Int64) ) rfl rfl rfl ⟨Nat.le_refl _, Nat.le_refl _⟩ (Nat.le_of_ble_eq_true rfl) dX12_readsNumber_21 ?_
  refine am_ifb_ne (tgt := 37) hz1 dX12_readsNumber_24 (by decide) (fun c2 => ?_) (fun c2 => ?_)
  · replace h := h.1 c2
    refine am_iconst (v := 0) hz1 dX12_readsNumber_37 (by decide) ?_
    refine am_istore (lv' := [(4, .int 0), (3, .int (m_byte I (nI (skI I)))), (0, .ref ((zB z).size + 64)), (1, .int v1), (2, .int v2)]) hz1 dX12_readsNumber_38 rfl rfl ?_
    exact am_sub (lv' := [(0, .ref ((zB z).size + 64)), (1, .int v1), (2, .int v2), (4, .int 0)]) [2, 3, 4, 0] rfl h
  · replace h := h.2 c2
    refine am_aload_n hz1 dX12_readsNumber_27 1 rfl rfl ?_
    refine am_iconst (v := 1) hz1 dX12_readsNumber_28 (by decide) ?_
    refine am_aload_n hz1 dX12_readsNumber_29 1 rfl rfl ?_
    refine am_getI hz1 fl_X12_133 (ln_64 hG) (lk_64 hG) rfl dX12_readsNumber_30 ?_
    refine am_cVf hz cv_X12_164 [.int 1, .int ((setI (nxt I) 64 (upd ((nxt I) 64) 11 ((nxt I) 64 8))) 64 8)] [] (c_X12_fails hG (1 : Int32) ((setI (nxt I) 64 (upd ((nxt I) 64) 11 ((nxt I) 64 8))) 64 8) ) (ln_64 hG) (lk_64 hG) rfl rfl rfl ⟨Nat.le_refl _, Nat.le_refl _⟩ (Nat.le_of_ble_eq_true rfl) dX12_readsNumber_33 ?_
    exact am_zreturn hz (bI_01 _) dX12_readsNumber_36 h
set_option maxRecDepth 100000 in
set_option maxHeartbeats 4000000 in
theorem b_X12_readsNumber_40 {z : amZ} {post : amP} {G : amG} {I : amI} {L : amL} (hz : Go z cX12_readsNumber RX12 5 (some .boolean) 2 0 0 post) (hG : Lay G) {v1 : Int32} {v2 : Int32} {v4 : Int32} (h : (mtOk I) ∧ (vp_in (I 64 8) 100000) ∧ ((m_isIn ((m_byte I (I 64 8)).toInt64) (48 : Int64) (57 : Int64) = false) → ((m_isIn v4.toInt64 v1.toInt64 v2.toInt64 = true) → post (some (.int 1)) G (setI I 64 (upd (I 64) 10 v4)) L) ∧ ((m_isIn v4.toInt64 v1.toInt64 v2.toInt64 = false) → ((false = false) → post (some (.int 0)) G (setI (setI I 64 (upd (I 64) 10 v4)) 64 (upd ((setI I 64 (upd (I 64) 10 v4)) 64) 9 (8 * ((setI I 64 (upd (I 64) 10 v4)) 64 11) + (2 : Int32)))) L) ∧ ((false = true) → post (some (.int 1)) G (setI (setI I 64 (upd (I 64) 10 v4)) 64 (upd ((setI I 64 (upd (I 64) 10 v4)) 64) 9 (8 * ((setI I 64 (upd (I 64) 10 v4)) 64 11) + (2 : Int32)))) L))) ∧ ((m_isIn ((m_byte I (I 64 8)).toInt64) (48 : Int64) (57 : Int64) = true) → ((v4 ≤ (9999 : Int32)) → (mtOk I) ∧ (vp_in (I 64 8) 100000) ∧ Wx z 0 0 40 [(0, .ref ((zB z).size + 64)), (1, .int v1), (2, .int v2), (4, .int ((((10 : Int32) * v4) + (m_byte I (I 64 8))) - (48 : Int32)))] [] G (setI I 64 (upd (I 64) 8 ((I 64 8) + (1 : Int32)))) L) ∧ ((¬ v4 ≤ (9999 : Int32)) → Wx z 0 0 40 [(0, .ref ((zB z).size + 64)), (1, .int v1), (2, .int v2), (4, .int v4)] [] G (setI I 64 (upd (I 64) 8 ((I 64 8) + (1 : Int32)))) L))) : Wx z 0 0 40 [(0, .ref ((zB z).size + 64)), (1, .int v1), (2, .int v2), (4, .int v4)] [] G I L := by
  have hz1 := hz.1
  refine am_aload_n hz1 dX12_readsNumber_40 0 rfl rfl ?_
  refine am_aload_n hz1 dX12_readsNumber_41 0 rfl rfl ?_
  refine am_getI hz1 fl_X12_133 (ln_64 hG) (lk_64 hG) rfl dX12_readsNumber_42 ?_
  obtain ⟨g1, h⟩ := h
  obtain ⟨g2, h⟩ := h
  refine am_cVf hz cv_X12_136 [.int (I 64 8)] [] (c_X12_byteAt hG (I 64 8) g1 g2) (ln_64 hG) (lk_64 hG) rfl rfl rfl ⟨Nat.le_refl _, Nat.le_refl _⟩ (Nat.le_of_ble_eq_true rfl) dX12_readsNumber_45 ?_
  refine am_i2l hz1 dX12_readsNumber_48 ?_
  refine am_ldc2 hz1 kc_X12_160 dX12_readsNumber_49 ?_
  refine am_ldc2 hz1 kc_X12_162 dX12_readsNumber_52 ?_
  refine am_cSf hz ct_X12_82 [.long ((m_byte I (I 64 8)).toInt64), .long (48 : Int64), .long (57 : Int64)] [] (c_X12_isIn hG ((m_byte I (I 64 8)).toInt64) (48 : Int64) (57 : Int64) ) rfl rfl rfl ⟨Nat.le_refl _, Nat.le_refl _⟩ (Nat.le_of_ble_eq_true rfl) dX12_readsNumber_55 ?_
  refine am_ifb_eq (tgt := 106) hz1 dX12_readsNumber_58 (by decide) (fun c3 => ?_) (fun c3 => ?_)
  · replace h := h.1 c3
    refine am_aload_n hz1 dX12_readsNumber_106 0 rfl rfl ?_
    refine am_iload hz1 dX12_readsNumber_107 3 rfl ?_
    refine am_putI hz1 fl_X12_167 (ln_64 hG) (lk_64 hG) rfl rfl (fun _ => rfl) dX12_readsNumber_109 ?_
    refine am_iload hz1 dX12_readsNumber_112 3 rfl ?_
    refine am_i2l hz1 dX12_readsNumber_114 ?_
    refine am_iload_n hz1 dX12_readsNumber_115 1 rfl rfl ?_
    refine am_i2l hz1 dX12_readsNumber_116 ?_
    refine am_iload_n hz1 dX12_readsNumber_117 2 rfl rfl ?_
    refine am_i2l hz1 dX12_readsNumber_118 ?_
    refine am_cSf hz ct_X12_82 [.long v4.toInt64, .long v1.toInt64, .long v2.toInt64] [] (c_X12_isIn hG v4.toInt64 v1.toInt64 v2.toInt64 ) rfl rfl rfl ⟨Nat.le_refl _, Nat.le_refl _⟩ (Nat.le_of_ble_eq_true rfl) dX12_readsNumber_119 ?_
    refine am_ifb_ne (tgt := 137) hz1 dX12_readsNumber_122 (by decide) (fun c4 => ?_) (fun c4 => ?_)
    · replace h := h.1 c4
      refine am_iconst (v := 1) hz1 dX12_readsNumber_137 (by decide) ?_
      refine am_goto (tgt := 142) hz1 dX12_readsNumber_138 (by decide) ?_
      exact am_zreturn hz (by decide) dX12_readsNumber_142 h
    · replace h := h.2 c4
      refine am_aload_n hz1 dX12_readsNumber_125 0 rfl rfl ?_
      refine am_iconst (v := 2) hz1 dX12_readsNumber_126 (by decide) ?_
      refine am_aload_n hz1 dX12_readsNumber_127 0 rfl rfl ?_
      refine am_getI hz1 fl_X12_157 (ln_64 hG) (lk_64 hG) rfl dX12_readsNumber_128 ?_
      refine am_cVf hz cv_X12_164 [.int 2, .int ((setI I 64 (upd (I 64) 10 v4)) 64 11)] [] (c_X12_fails hG (2 : Int32) ((setI I 64 (upd (I 64) 10 v4)) 64 11) ) (ln_64 hG) (lk_64 hG) rfl rfl rfl ⟨Nat.le_refl _, Nat.le_refl _⟩ (Nat.le_of_ble_eq_true rfl) dX12_readsNumber_131 ?_
      refine am_ifb_eq (tgt := 141) hz1 dX12_readsNumber_134 (by decide) (fun c5 => ?_) (fun c5 => ?_)
      · replace h := h.1 c5
        refine am_iconst (v := 0) hz1 dX12_readsNumber_141 (by decide) ?_
        exact am_zreturn hz (by decide) dX12_readsNumber_142 h
      · replace h := h.2 c5
        refine am_iconst (v := 1) hz1 dX12_readsNumber_137 (by decide) ?_
        refine am_goto (tgt := 142) hz1 dX12_readsNumber_138 (by decide) ?_
        exact am_zreturn hz (by decide) dX12_readsNumber_142 h
  · replace h := h.2 c3
    refine am_iload hz1 dX12_readsNumber_61 3 rfl ?_
    refine am_sipush (v := 9999) hz1 dX12_readsNumber_63 (by decide) ?_
    refine am_icmp_le (tgt := 74) hz1 dX12_readsNumber_66 (by decide) (fun c6 => ?_) (fun c6 => ?_)
    · replace h := h.1 c6
      refine am_bipush (v := 10) hz1 dX12_readsNumber_74 (by decide) ?_
      refine am_iload hz1 dX12_readsNumber_76 3 rfl ?_
      refine am_imul hz1 dX12_readsNumber_78 ?_
      refine am_aload_n hz1 dX12_readsNumber_79 0 rfl rfl ?_
      refine am_aload_n hz1 dX12_readsNumber_80 0 rfl rfl ?_
      refine am_getI hz1 fl_X12_133 (ln_64 hG) (lk_64 hG) rfl dX12_readsNumber_81 ?_
      obtain ⟨g7, h⟩ := h
      obtain ⟨g8, h⟩ := h
      refine am_cVf hz cv_X12_136 [.int (I 64 8)] [.int ((10 : Int32) * v4)] (c_X12_byteAt hG (I 64 8) g7 g8) (ln_64 hG) (lk_64 hG) rfl rfl rfl ⟨Nat.le_refl _, Nat.le_refl _⟩ (Nat.le_of_ble_eq_true rfl) dX12_readsNumber_84 ?_
      refine am_iadd hz1 dX12_readsNumber_87 ?_
      refine am_bipush (v := 48) hz1 dX12_readsNumber_88 (by decide) ?_
      refine am_isub hz1 dX12_readsNumber_90 ?_
      refine am_istore (lv' := [(4, .int ((((10 : Int32) * v4) + (m_byte I (I 64 8))) - (48 : Int32))), (0, .ref ((zB z).size + 64)), (1, .int v1), (2, .int v2)]) hz1 dX12_readsNumber_91 rfl rfl ?_
      refine am_aload_n hz1 dX12_readsNumber_93 1 rfl rfl ?_
      refine am_dup hz1 dX12_readsNumber_94 rfl ?_
      refine am_getI hz1 fl_X12_133 (ln_64 hG) (lk_64 hG) rfl dX12_readsNumber_95 ?_
      refine am_iconst (v := 1) hz1 dX12_readsNumber_98 (by decide) ?_
      refine am_iadd hz1 dX12_readsNumber_99 ?_
      refine am_putI hz1 fl_X12_133 (ln_64 hG) (lk_64 hG) rfl rfl (fun _ => rfl) dX12_readsNumber_100 ?_
      refine am_goto (tgt := 40) hz1 dX12_readsNumber_103 (by decide) ?_
      exact am_sub (lv' := [(0, .ref ((zB z).size + 64)), (1, .int v1), (2, .int v2), (4, .int ((((10 : Int32) * v4) + (m_byte I (I 64 8))) - (48 : Int32)))]) [1, 2, 3, 0] rfl h
    · replace h := h.2 c6
      refine am_iload hz1 dX12_readsNumber_69 3 rfl ?_
      refine am_goto (tgt := 91) hz1 dX12_readsNumber_71 (by decide) ?_
      refine am_istore (lv' := [(4, .int v4), (0, .ref ((zB z).size + 64)), (1, .int v1), (2, .int v2)]) hz1 dX12_readsNumber_91 rfl rfl ?_
      refine am_aload_n hz1 dX12_readsNumber_93 1 rfl rfl ?_
      refine am_dup hz1 dX12_readsNumber_94 rfl ?_
      refine am_getI hz1 fl_X12_133 (ln_64 hG) (lk_64 hG) rfl dX12_readsNumber_95 ?_
      refine am_iconst (v := 1) hz1 dX12_readsNumber_98 (by decide) ?_
      refine am_iadd hz1 dX12_readsNumber_99 ?_
      refine am_putI hz1 fl_X12_133 (ln_64 hG) (lk_64 hG) rfl rfl (fun _ => rfl) dX12_readsNumber_100 ?_
      refine am_goto (tgt := 40) hz1 dX12_readsNumber_103 (by decide) ?_
      exact am_sub (lv' := [(0, .ref ((zB z).size + 64)), (1, .int v1), (2, .int v2), (4, .int v4)]) [1, 2, 3, 0] rfl h
set_option maxRecDepth 100000 in
set_option maxHeartbeats 4000000 in
theorem c_X12_readsNumber {l : Launch} {D : va_G} {B : Heap} {G : amG} {I : amI} {L : amL}  (hG : Lay G)  (v1 : Int32) (v2 : Int32) {m a lo hi : Nat} {T : Nat → Int32} (hT : tpO I m T a) (hlo : v1 = nI lo) (hhi : v2 = nI hi) (hlo2 : lo ≤ 1000) (hhi2 : hi ≤ 1000) : Mx l D B yX12_readsNumber cX12_readsNumber 5 (some .boolean) 2 0 0 [.ref (B.size + 64), .int v1, .int v2] G I L (fun r G1 I1 L1 => r = some (.int (bI (decide ((rdN m T lo hi a).1 = 0)))) ∧ G1 = G ∧ L1 = L ∧ frN I I1 ∧ ((rdN m T lo hi a).1 = 0 → I1 64 8 = nI (rdN m T lo hi a).2.2.2 ∧ I1 64 10 = nI (rdN m T lo hi a).2.1 ∧ I1 64 11 = nI (rdN m T lo hi a).2.2.1) ∧ (¬ (rdN m T lo hi a).1 = 0 → I1 64 9 = nI (rdN m T lo hi a).1)) := by
  refine Mx.of (by decide) rfl rfl (fun z e1 e2 e3 hz => ?_)
  subst e1; subst e2; subst e3
  refine b_X12_readsNumber_0 hz hG ?_
  have hm := hT.1
  have ha := hT.2.2.2.2.1
  obtain ⟨s1, s2⟩ := sk_le (m := m) (T := T) ha
  subst hlo; subst hhi
  have hN := hT.nx
  rw [hT.skE, hT.byte (by omega), isIn_dg, nxt_8, hT.skE]
  generalize hp : sk m T a = p at *
  obtain ⟨d1, d2, d3, d4⟩ : p ≤ dgE m T p ∧ dgE m T p ≤ m ∧ (∀ j, p ≤ j → j < dgE m T p → isDg (tb m T j) = true) ∧ (dgE m T p < m → isDg (tb m T (dgE m T p)) = false) := rn_b (p := isDg) (b := tb m T) (m := m) _ p rfl s2
  refine ⟨hT.ok, fun q => ?_, fun q => ?_⟩
  · generalize hq : dgE m T p = e at *
    have hrd : rdN m T lo hi a = (if lo ≤ nvF T (e - p) p 0 ∧ nvF T (e - p) p 0 ≤ hi then 0 else 8 * p + 2, nvF T (e - p) p 0, p, e) := by
      rw [rdN, hp, hq, if_pos q]
    have hdT : ∀ j, p ≤ j → j < e → isDg (T j) = true := fun j g1 g2 => by
      have := d3 j g1 g2
      rw [tb, if_pos (by omega)] at this
      exact this
    have hv := nvF_le (m := m) (T := T) (e - p) p 0 (fun j g1 g2 => hdT j g1 (by omega)) (by omega)
    generalize hV : nvF T (e - p) p 0 = V at *
    have main : ∀ c k v (X : amI), e - k = c → p ≤ k → k ≤ e → frN I X → X 64 8 = nI k → X 64 11 = nI p → nvF T c k v = V → v ≤ 99999 → Wx z 0 0 40 [(0, .ref ((zB z).size + 64)), (1, .int (nI lo)), (2, .int (nI hi)), (4, .int (nI v))] [] G X L := by
      intro c
      induction c with
      | zero =>
        intro k v X h1 h2 h3 h4 h5 h6 h7 h9
        have hX : tpO X m T k := hT.mv h4.R h5 (by omega)
        have hk : k = e := by omega
        have hvV : v = V := h7
        subst hk; subst hvV
        refine b_X12_readsNumber_40 hz hG ⟨hX.mt, by rw [h5]; exact in_at (by omega), ?_⟩
        rw [h5, hX.byte (by omega), isIn_dg, isIn_nI (by omega) (by omega) (by omega)]
        refine ⟨fun _ => ⟨fun g => ?_, fun g => ⟨fun _ => ?_, fun w => by cases w⟩⟩, fun g => ?_⟩
        · have g' := of_decide_eq_true g
          rw [hrd, if_pos g']
          exact ⟨rfl, rfl, rfl, frN_t h4 (frN_64 (Or.inr (Or.inr (Or.inl rfl)))), fun _ => ⟨by rw [setI_s, upd_n (by decide)]; exact h5, by rw [setI_s, upd_s], by rw [setI_s, upd_n (by decide)]; exact h6⟩, fun w => absurd rfl w⟩
        · have g' : ¬ (lo ≤ v ∧ v ≤ hi) := fun w => by rw [decide_eq_true w] at g; cases g
          rw [hrd, if_neg g']
          have e11 : setI X 64 (upd (X 64) 10 (nI v)) 64 11 = nI p := by rw [setI_s, upd_n (by decide)]; exact h6
          rw [e11]
          refine ⟨by rw [decide_eq_false (by omega)]; rfl, rfl, rfl, frN_t h4 (frN_t (frN_64 (Or.inr (Or.inr (Or.inl rfl)))) (frN_64 (Or.inr (Or.inl rfl)))), fun w => absurd w (by omega), fun _ => ?_⟩
          rw [setI_s, upd_s, show (8 : Int32) = nI 8 from rfl, show (2 : Int32) = nI 2 from rfl, nI_mul, nI_add]
        · have hne : ¬ isDg (tb m T k) = true := fun w => by
            by_cases hkm : k < m
            · rw [d4 hkm] at w; cases w
            · rw [tb_m (by omega)] at w; exact absurd w (by decide)
          exact absurd g hne
      | succ c ih =>
        intro k v X h1 h2 h3 h4 h5 h6 h7 h9
        have hX : tpO X m T k := hT.mv h4.R h5 (by omega)
        have hdk := d3 k h2 (by omega)
        have hTk : tb m T k = T k := by rw [tb, if_pos (by omega)]
        obtain ⟨b, hb, hTb⟩ := hT.2.2.2.2.2 k (by omega)
        have hdb := hdT k h2 (by omega)
        have hb48 : 48 ≤ b := by
          rw [hTb, isDg, Bool.and_eq_true, decide_eq_true_eq] at hdb
          exact (nI_leI (a := 48) (b := b) (by decide) (by omega)).mp hdb.1
        refine b_X12_readsNumber_40 hz hG ⟨hX.mt, by rw [h5]; exact in_at (by omega), ?_⟩
        rw [h5, hX.byte (by omega), isIn_dg, hdk, hTk, hTb, nI_1]
        refine ⟨fun w => (by cases w), fun _ => ⟨fun g => ⟨hX.mt, by exact in_at (by omega), ?_⟩, fun g => ?_⟩⟩
        · have g' : v ≤ 9999 := (nI_leI (a := v) (b := 9999) (by omega) (by decide)).mp g
          have e1 : ((10 : Int32) * nI v + nI b - 48) = nI (10 * v + (b - 48)) := by
            rw [show (10 : Int32) = nI 10 from rfl, nI_mul, nI_add, show 10 * v + b = (10 * v + (b - 48)) + 48 by omega, ← nI_add, show (48 : Int32) = nI 48 from rfl]
            exact Int32.add_sub_cancel _ _
          rw [e1]
          refine ih (k + 1) _ _ (by omega) (by omega) (by omega) (frN_t h4 (frN_64 (Or.inl rfl))) (by rw [setI_s, upd_s]) (by rw [setI_s, upd_n (by decide)]; exact h6) ?_ ?_
          · rw [← h7, nvF, stp, if_neg (by omega), hTb, cl_nI (by omega)]
          · have := stp_le hdb h9
            rw [stp, if_neg (by omega), hTb, cl_nI (by omega)] at this
            exact this
        · have g' : ¬ v ≤ 9999 := fun w => g (nI_le (a := v) (b := 9999) w (by decide))
          refine ih (k + 1) _ _ (by omega) (by omega) (by omega) (frN_t h4 (frN_64 (Or.inl rfl))) (by rw [setI_s, upd_s]) (by rw [setI_s, upd_n (by decide)]; exact h6) ?_ h9
          rw [← h7, nvF, stp, if_pos (by omega)]
    exact main _ p 0 _ rfl (Nat.le_refl _) d1 (frN_t nxt_fr (frN_64 (Or.inr (Or.inr (Or.inr rfl))))) (by rw [setI_s, upd_n (by decide)]; exact hN.2.2.2.1) (by rw [setI_s, upd_s]) hV (by omega)
  · have hrd : rdN m T lo hi a = (8 * p + 1, 0, p, p) := by rw [rdN, hp, if_neg (by rw [q]; decide)]
    rw [hrd]
    have e8 : setI (nxt I) 64 (upd (nxt I 64) 11 (nI p)) 64 8 = nI p := by rw [setI_s, upd_n (by decide)]; exact hN.2.2.2.1
    rw [e8]
    refine ⟨by rw [decide_eq_false (by omega)], rfl, rfl, frN_t nxt_fr (frN_t (frN_64 (Or.inr (Or.inr (Or.inr rfl)))) (frN_64 (Or.inr (Or.inl rfl)))), fun w => absurd w (by omega), fun _ => ?_⟩
    rw [setI_s, upd_s, show (8 : Int32) = nI 8 from rfl, show (1 : Int32) = nI 1 from rfl, nI_mul, nI_add]
