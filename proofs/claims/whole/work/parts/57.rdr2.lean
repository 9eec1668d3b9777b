/-! THE CLASS READS: numbers, kinds, elements -/
def stc (v : Nat) (x : Int32) : Nat := if 10 * v + (x.toNatClampNeg - 48) < 100000 then 10 * v + (x.toNatClampNeg - 48) else 100000
/-- both numbers are the same, or both are too large -/
def agr (v c : Nat) : Prop := c ≤ 100000 ∧ (v = c ∨ (999 < v ∧ 999 < c))
theorem agr_s {v c : Nat} {x : Int32} (h : agr v c) (hv : v ≤ 99999) (hx : isDg x = true) : agr (stp v x) (stc c x) := by
  have h1 : stp v x ≤ 99999 := stp_le hx hv
  obtain ⟨h2, h3⟩ := h
  rw [stp] at h1 ⊢
  rw [stc]
  generalize x.toNatClampNeg - 48 = y at *
  refine ⟨by split <;> omega, ?_⟩
  rcases h3 with rfl | ⟨h3, h4⟩
  · by_cases q : 9999 < v
    · rw [if_pos q]
      right
      split <;> omega
    · rw [if_neg q] at h1 ⊢
      left
      rw [if_pos (by omega)]
  · right
    constructor
    · split <;> omega
    · split <;> omega
/-- what reading a number leaves -/
def rnO (G : amG) (I : amI) (L : amL) (m : Nat) (T : Nat → Int32) (a : Nat) : amP := fun r G1 I1 L1 => G1 = G ∧ L1 = L ∧ frC I I1 ∧ ∃ c, r = some (.int (nI c)) ∧ c ≤ 100000 ∧ I1 17 4 = nI (sk m T a) ∧ (isDg (tb m T (sk m T a)) = true → I1 17 5 = 0 ∧ I1 17 3 = nI (dgE m T (sk m T a)) ∧ agr (nvF T (dgE m T (sk m T a) - sk m T a) (sk m T a) 0) c) ∧ (isDg (tb m T (sk m T a)) = false → I1 17 5 = nI (8 * sk m T a + 1))
set_option maxRecDepth 100000 in
set_option maxHeartbeats 4000000 in
theorem b_X6_readNumber_0 {z : amZ} {post : amP} {G : amG} {I : amI} {L : amL} (hz : Go z cX6_readNumber RX6 2 (some .int) 2 0 0 post) (hG : Lay G)  (h : (cOk I) ∧ Wx z 0 0 14 [(0, .ref ((zB z).size + 17)), (1, .int 0)] [] G (setI (skp I) 17 (upd ((skp I) 17) 4 ((skp I) 17 3))) L) : Wx z 0 0 0 [(0, .ref ((zB z).size + 17))] [] G I L := by
  have hz1 := hz.1
  refine am_aload_n hz1 dX6_readNumber_0 0 rfl rfl ?_
  obtain ⟨g1, h⟩ := h
  refine am_cVf hz cv_X6_60 [] [] (c_X6_skipBlanks hG  g1) (ln_17 hG) (lk_17 hG) rfl rfl rfl ⟨Nat.le_refl _, Nat.le_refl _⟩ (Nat.le_of_ble_eq_true rfl) dX6_readNumber_1 ?_
  refine am_aload_n hz1 dX6_readNumber_4 0 rfl rfl ?_
  refine am_aload_n hz1 dX6_readNumber_5 0 rfl rfl ?_
  refine am_getI hz1 fl_X6_23 (ln_17 hG) (lk_17 hG) rfl dX6_readNumber_6 ?_
  refine am_putI hz1 fl_X6_41 (ln_17 hG) (lk_17 hG) rfl rfl (fun _ => rfl) dX6_readNumber_9 ?_
  refine am_iconst (v := 0) hz1 dX6_readNumber_12 (by decide) ?_
  refine am_istore_n (lv' := [(1, .int 0), (0, .ref ((zB z).size + 17))]) hz1 dX6_readNumber_13 rfl rfl rfl ?_
  exact am_sub (lv' := [(0, .ref ((zB z).size + 17)), (1, .int 0)]) [1, 0] rfl h
set_option maxRecDepth 100000 in
set_option maxHeartbeats 4000000 in
theorem b_X6_readNumber_14 {z : amZ} {post : amP} {G : amG} {I : amI} {L : amL} (hz : Go z cX6_readNumber RX6 2 (some .int) 2 0 0 post) (hG : Lay G) {v1 : Int32} (h : (((I 1 1) ≤ (I 17 3)) → ((¬ (I 17 3) = (I 17 4)) → post (some (.int v1)) G I L) ∧ (((I 17 3) = (I 17 4)) → post (some (.int v1)) G (q_blm I (I 17 3) (1 : Int32)) L)) ∧ ((¬ (I 1 1) ≤ (I 17 3)) → (tpOk I) ∧ ((q_dig I (I 17 3) = false) → ((¬ (I 17 3) = (I 17 4)) → post (some (.int v1)) G I L) ∧ (((I 17 3) = (I 17 4)) → post (some (.int v1)) G (q_blm I (I 17 3) (1 : Int32)) L)) ∧ ((q_dig I (I 17 3) = true) → (tpOk I) ∧ Wx z 0 0 14 [(0, .ref ((zB z).size + 17)), (1, .int (if ((((10 : Int32) * v1) + (q_tat I (I 17 3))) - (48 : Int32)) < (100000 : Int32) then ((((10 : Int32) * v1) + (q_tat I (I 17 3))) - (48 : Int32)) else (100000 : Int32)))] [] G (setI I 17 (upd (I 17) 3 ((I 17 3) + (1 : Int32)))) L))) : Wx z 0 0 14 [(0, .ref ((zB z).size + 17)), (1, .int v1)] [] G I L := by
  have hz1 := hz.1
  refine am_aload_n hz1 dX6_readNumber_14 0 rfl rfl ?_
  refine am_getI hz1 fl_X6_23 (ln_17 hG) (lk_17 hG) rfl dX6_readNumber_15 ?_
  refine am_aload_n hz1 dX6_readNumber_18 0 rfl rfl ?_
  refine am_getR hz1 fl_X6_15 (ln_17 hG) (lk_17 hG) (lr_17_0 hG) rfl dX6_readNumber_19 ?_
  refine am_getI hz1 fl_X6_51 (ln_1 hG) (lk_1 hG) rfl dX6_readNumber_22 ?_
  refine am_icmp_ge (tgt := 80) hz1 dX6_readNumber_25 (by decide) (fun c1 => ?_) (fun c1 => ?_)
  · replace h := h.1 c1
    refine am_aload_n hz1 dX6_readNumber_80 0 rfl rfl ?_
    refine am_getI hz1 fl_X6_23 (ln_17 hG) (lk_17 hG) rfl dX6_readNumber_81 ?_
    refine am_aload_n hz1 dX6_readNumber_84 0 rfl rfl ?_
    refine am_getI hz1 fl_X6_41 (ln_17 hG) (lk_17 hG) rfl dX6_readNumber_85 ?_
    refine am_icmp_ne (tgt := 100) hz1 dX6_readNumber_88 (by decide) (fun c2 => ?_) (fun c2 => ?_)
    · replace h := h.1 c2
      refine am_iload_n hz1 dX6_readNumber_100 1 rfl rfl ?_
      exact am_ireturn hz dX6_readNumber_101 h
    · replace h := h.2 c2
      refine am_aload_n hz1 dX6_readNumber_91 0 rfl rfl ?_
      refine am_aload_n hz1 dX6_readNumber_92 0 rfl rfl ?_
      refine am_getI hz1 fl_X6_23 (ln_17 hG) (lk_17 hG) rfl dX6_readNumber_93 ?_
      refine am_iconst (v := 1) hz1 dX6_readNumber_96 (by decide) ?_
      refine am_cVf hz cv_X6_44 [.int (I 17 3), .int 1] [] (c_X6_blame hG (I 17 3) (1 : Int32) ) (ln_17 hG) (lk_17 hG) rfl rfl rfl ⟨Nat.le_refl _, Nat.le_refl _⟩ (Nat.le_of_ble_eq_true rfl) dX6_readNumber_97 ?_
      refine am_iload_n hz1 dX6_readNumber_100 1 rfl rfl ?_
      exact am_ireturn hz dX6_readNumber_101 h
  · replace h := h.2 c1
    refine am_aload_n hz1 dX6_readNumber_28 0 rfl rfl ?_
    refine am_getR hz1 fl_X6_15 (ln_17 hG) (lk_17 hG) (lr_17_0 hG) rfl dX6_readNumber_29 ?_
    refine am_aload_n hz1 dX6_readNumber_32 0 rfl rfl ?_
    refine am_getI hz1 fl_X6_23 (ln_17 hG) (lk_17 hG) rfl dX6_readNumber_33 ?_
    obtain ⟨g3, h⟩ := h
    refine am_cVf hz cv_X6_94 [.int (I 17 3)] [] (c_X10_isDigitAt hG (I 17 3) g3) (ln_1 hG) (lk_1 hG) rfl rfl rfl ⟨Nat.le_refl _, Nat.le_refl _⟩ (Nat.le_of_ble_eq_true rfl) dX6_readNumber_36 ?_
    refine am_ifb_eq (tgt := 80) hz1 dX6_readNumber_39 (by decide) (fun c4 => ?_) (fun c4 => ?_)
    · replace h := h.1 c4
      refine am_aload_n hz1 dX6_readNumber_80 0 rfl rfl ?_
      refine am_getI hz1 fl_X6_23 (ln_17 hG) (lk_17 hG) rfl dX6_readNumber_81 ?_
      refine am_aload_n hz1 dX6_readNumber_84 0 rfl rfl ?_
      refine am_getI hz1 fl_X6_41 (ln_17 hG) (lk_17 hG) rfl dX6_readNumber_85 ?_
      refine am_icmp_ne (tgt := 100) hz1 dX6_readNumber_88 (by decide) (fun c5 => ?_) (fun c5 => ?_)
      · replace h := h.1 c5
        refine am_iload_n hz1 dX6_readNumber_100 1 rfl rfl ?_
        exact am_ireturn hz dX6_readNumber_101 h
      · replace h := h.2 c5
        refine am_aload_n hz1 dX6_readNumber_91 0 rfl rfl ?_
        refine am_aload_n hz1 dX6_readNumber_92 0 rfl rfl ?_
        refine am_getI hz1 fl_X6_23 (ln_17 hG) (lk_17 hG) rfl dX6_readNumber_93 ?_
        refine am_iconst (v := 1) hz1 dX6_readNumber_96 (by decide) ?_
        refine am_cVf hz cv_X6_44 [.int (I 17 3), .int 1] [] (c_X6_blame hG (I 17 3) (1 : Int32) ) (ln_17 hG) (lk_17 hG) rfl rfl rfl ⟨Nat.le_refl _, Nat.le_refl _⟩ (Nat.le_of_ble_eq_true rfl) dX6_readNumber_97 ?_
        refine am_iload_n hz1 dX6_readNumber_100 1 rfl rfl ?_
        exact am_ireturn hz dX6_readNumber_101 h
    · replace h := h.2 c4
      refine am_ldc hz1 kc_X6_97 dX6_readNumber_42 ?_
      refine am_bipush (v := 10) hz1 dX6_readNumber_44 (by decide) ?_
      refine am_iload_n hz1 dX6_readNumber_46 1 rfl rfl ?_
      refine am_imul hz1 dX6_readNumber_47 ?_
      refine am_aload_n hz1 dX6_readNumber_48 0 rfl rfl ?_
      refine am_getR hz1 fl_X6_15 (ln_17 hG) (lk_17 hG) (lr_17_0 hG) rfl dX6_readNumber_49 ?_
      refine am_aload_n hz1 dX6_readNumber_52 0 rfl rfl ?_
      refine am_getI hz1 fl_X6_23 (ln_17 hG) (lk_17 hG) rfl dX6_readNumber_53 ?_
      obtain ⟨g6, h⟩ := h
      refine am_cVf hz cv_X6_56 [.int (I 17 3)] [.int ((10 : Int32) * v1), .int 100000] (c_X10_at hG (I 17 3) g6) (ln_1 hG) (lk_1 hG) rfl rfl rfl ⟨Nat.le_refl _, Nat.le_refl _⟩ (Nat.le_of_ble_eq_true rfl) dX6_readNumber_56 ?_
      refine am_iadd hz1 dX6_readNumber_59 ?_
      refine am_bipush (v := 48) hz1 dX6_readNumber_60 (by decide) ?_
      refine am_isub hz1 dX6_readNumber_62 ?_
      refine am_mmin hz ct_X6_98 rfl ⟨Nat.le_refl _, Nat.le_refl _⟩ (Nat.le_of_ble_eq_true rfl) dX6_readNumber_63 ?_
      refine am_istore_n (lv' := [(1, .int (if ((((10 : Int32) * v1) + (q_tat I (I 17 3))) - (48 : Int32)) < (100000 : Int32) then ((((10 : Int32) * v1) + (q_tat I (I 17 3))) - (48 : Int32)) else (100000 : Int32))), (0, .ref ((zB z).size + 17))]) hz1 dX6_readNumber_66 rfl rfl rfl ?_
      refine am_aload_n hz1 dX6_readNumber_67 1 rfl rfl ?_
      refine am_dup hz1 dX6_readNumber_68 rfl ?_
      refine am_getI hz1 fl_X6_23 (ln_17 hG) (lk_17 hG) rfl dX6_readNumber_69 ?_
      refine am_iconst (v := 1) hz1 dX6_readNumber_72 (by decide) ?_
      refine am_iadd hz1 dX6_readNumber_73 ?_
      refine am_putI hz1 fl_X6_23 (ln_17 hG) (lk_17 hG) rfl rfl (fun _ => rfl) dX6_readNumber_74 ?_
      refine am_goto (tgt := 14) hz1 dX6_readNumber_77 (by decide) ?_
      exact am_sub (lv' := [(0, .ref ((zB z).size + 17)), (1, .int (if ((((10 : Int32) * v1) + (q_tat I (I 17 3))) - (48 : Int32)) < (100000 : Int32) then ((((10 : Int32) * v1) + (q_tat I (I 17 3))) - (48 : Int32)) else (100000 : Int32)))]) [1, 0] rfl h
set_option maxRecDepth 100000 in
set_option maxHeartbeats 4000000 in
theorem c_X6_readNumber {l : Launch} {D : va_G} {B : Heap} {G : amG} {I : amI} {L : amL}  (hG : Lay G)   {m a : Nat} {T : Nat → Int32} (hT : rdV I m T a) (h5 : I 17 5 = 0) : Mx l D B yX6_readNumber cX6_readNumber 2 (some .int) 2 0 0 [.ref (B.size + 17)] G I L (rnO G I L m T a) := by
  refine Mx.of (by decide) rfl rfl (fun z e1 e2 e3 hz => ?_)
  subst e1; subst e2; subst e3
  refine b_X6_readNumber_0 hz hG ?_
  have hm := hT.1
  have ha := hT.2.2.2.2.1
  obtain ⟨s1, s2⟩ := sk_le (m := m) (T := T) ha
  have hN := hT.nx
  refine ⟨hT.ok, ?_⟩
  rw [hN.2.2.2.1]
  have hX0 : frC I (setI (skp I) 17 (upd (skp I 17) 4 (nI (sk m T a)))) := frC_t skp_fr (frC_17 (by omega))
  have x3 : setI (skp I) 17 (upd (skp I 17) 4 (nI (sk m T a))) 17 3 = nI (sk m T a) := by rw [setI_s, upd_n (by decide)]; exact hN.2.2.2.1
  have x4 : setI (skp I) 17 (upd (skp I 17) 4 (nI (sk m T a))) 17 4 = nI (sk m T a) := by rw [setI_s, upd_s]
  have x5 : setI (skp I) 17 (upd (skp I 17) 4 (nI (sk m T a))) 17 5 = 0 := by rw [setI_s, upd_n (by decide), skp_5]; exact h5
  generalize setI (skp I) 17 (upd (skp I 17) 4 (nI (sk m T a))) = X0 at *
  have hz2 : ∀ (r : Option Value) (I1 : amI), (G = G ∧ L = L ∧ frC I I1 ∧ ∃ c, r = some (.int (nI c)) ∧ c ≤ 100000 ∧ I1 17 4 = nI (sk m T a) ∧ (isDg (tb m T (sk m T a)) = true → I1 17 5 = 0 ∧ I1 17 3 = nI (dgE m T (sk m T a)) ∧ agr (nvF T (dgE m T (sk m T a) - sk m T a) (sk m T a) 0) c) ∧ (isDg (tb m T (sk m T a)) = false → I1 17 5 = nI (8 * sk m T a + 1))) → rnO G I L m T a r G I1 L := fun r I1 h => h
  generalize hp : sk m T a = p at *
  obtain ⟨d1, d2, d3, d4⟩ : p ≤ dgE m T p ∧ dgE m T p ≤ m ∧ (∀ j, p ≤ j → j < dgE m T p → isDg (tb m T j) = true) ∧ (dgE m T p < m → isDg (tb m T (dgE m T p)) = false) := rn_b (p := isDg) (b := tb m T) (m := m) _ p rfl s2
  cases q : isDg (tb m T p) with
  | false =>
    have hX : rdV X0 m T p := hT.mv hX0.D x3 s2
    have fin : rnO G I L m T a (some (.int 0)) G (q_blm X0 (nI p) 1) L := by
      refine hz2 _ _ ⟨rfl, rfl, ?_, 0, rfl, by decide, ?_, fun w => (by rw [q] at w; cases w), fun _ => ?_⟩
      · rw [q_blm, if_pos x5]; exact frC_t hX0 (frC_17 (by omega))
      · rw [q_blm, if_pos x5, setI_s, upd_n (by decide)]; exact x4
      · rw [q_blm, if_pos x5, setI_s, upd_s]; exact n8 p 1
    refine b_X6_readNumber_14 hz hG ⟨fun _ => ⟨fun w => absurd (by rw [x3, x4]) w, fun _ => by rw [x3]; exact fin⟩, fun _ => ⟨hX.tp, fun _ => ⟨fun w => absurd (by rw [x3, x4]) w, fun _ => by rw [x3]; exact fin⟩, fun w => ?_⟩⟩
    rw [x3, hX.dig (by omega), q] at w; cases w
  | true =>
    have hpm : p < m := tb_lt rfl (fun w => by rw [w] at q; exact absurd q (by decide))
    have hpe : p < dgE m T p := by
      have : dgE m T p = if isDg (tb m T p) = true then dgE m T (p + 1) else p := rn_s hpm
      rw [if_pos q] at this
      have h2 : p + 1 ≤ dgE m T (p + 1) := (rn_le (p := isDg) (b := tb m T) (m := m) (k := p + 1) (by omega)).1
      omega
    generalize hq : dgE m T p = e at *
    have hdT : ∀ j, p ≤ j → j < e → isDg (T j) = true := fun j g1 g2 => by
      have := d3 j g1 g2
      rw [tb, if_pos (by omega)] at this
      exact this
    generalize hV : nvF T (e - p) p 0 = V at *
    have main : ∀ c k v vc (X : amI), e - k = c → p ≤ k → k ≤ e → frC I X → X 17 3 = nI k → X 17 4 = nI p → X 17 5 = 0 → nvF T c k v = V → v ≤ 99999 → agr v vc → Wx z 0 0 14 [(0, .ref ((zB z).size + 17)), (1, .int (nI vc))] [] G X L := by
      intro c
      induction c with
      | zero =>
        intro k v vc X h1 h2 h3 h4 g3 g4 g5 h7 h9 hag
        have hX : rdV X m T k := hT.mv h4.D g3 (by omega)
        have hk : k = e := by omega
        have hvV : v = V := h7
        subst hk; subst hvV
        have fin : rnO G I L m T a (some (.int (nI vc))) G X L := hz2 _ _ ⟨rfl, rfl, h4, vc, rfl, hag.1, g4, fun _ => ⟨g5, g3, hag⟩, fun w => by rw [q] at w; cases w⟩
        have hne : ¬ X 17 3 = X 17 4 := fun w => by
          rw [g3, g4] at w
          have := (nI_eq (by omega) (by omega)).mp w
          omega
        refine b_X6_readNumber_14 hz hG ⟨fun _ => ⟨fun _ => fin, fun w => absurd w hne⟩, fun _ => ⟨hX.tp, fun _ => ⟨fun _ => fin, fun w => absurd w hne⟩, fun w => ?_⟩⟩
        rw [g3, hX.dig (by omega)] at w
        by_cases hkm : k < m
        · rw [d4 hkm] at w; cases w
        · rw [tb_m (by omega)] at w; exact absurd w (by decide)
      | succ c ih =>
        intro k v vc X h1 h2 h3 h4 g3 g4 g5 h7 h9 hag
        have hX : rdV X m T k := hT.mv h4.D g3 (by omega)
        have hdk := d3 k h2 (by omega)
        have hTk : tb m T k = T k := by rw [tb, if_pos (by omega)]
        obtain ⟨b, hb, hTb⟩ := hT.2.2.2.2.2 k (by omega)
        have hdb := hdT k h2 (by omega)
        have hb48 : 48 ≤ b := by
          rw [hTb, isDg, Bool.and_eq_true, decide_eq_true_eq] at hdb
          exact (nI_leI (a := 48) (b := b) (by decide) (by omega)).mp hdb.1
        have hag1 := hag.1
        refine b_X6_readNumber_14 hz hG ⟨fun w => absurd w (by rw [hX.2.1, g3]; exact nI_ge (by omega) (by omega)), fun _ => ⟨hX.tp, fun w => ?_, fun _ => ⟨hX.tp, ?_⟩⟩⟩
        · rw [g3, hX.dig (by omega), hdk] at w; cases w
        · have e1 : ((10 : Int32) * nI vc + nI b - 48) = nI (10 * vc + (b - 48)) := by
            rw [show (10 : Int32) = nI 10 from rfl, nI_mul, nI_add, show 10 * vc + b = (10 * vc + (b - 48)) + 48 by omega, ← nI_add, show (48 : Int32) = nI 48 from rfl]
            exact Int32.add_sub_cancel _ _
          have e2 : (if nI (10 * vc + (b - 48)) < (100000 : Int32) then nI (10 * vc + (b - 48)) else (100000 : Int32)) = nI (stc vc (T k)) := by
            rw [stc, hTb, cl_nI (n := b) (by omega), show (100000 : Int32) = nI 100000 from rfl]
            by_cases w : 10 * vc + (b - 48) < 100000
            · rw [if_pos w, if_pos (nI_lt (b := 100000) w (by decide))]
            · rw [if_neg w, if_neg (fun x => w ((nI_ltI (b := 100000) (by omega) (by decide)).mp x))]
          rw [g3, hX.byte (by omega), hTk, hTb, e1, e2, nI_1]
          exact ih (k + 1) (stp v (T k)) _ _ (by omega) (by omega) (by omega) (frC_t h4 (frC_17 (by omega))) (by rw [setI_s, upd_s]) (by rw [setI_s, upd_n (by decide)]; exact g4) (by rw [setI_s, upd_n (by decide)]; exact g5) h7 (stp_le hdb h9) (agr_s hag h9 hdb)
    exact main _ p 0 0 X0 rfl (Nat.le_refl _) d1 hX0 x3 x4 x5 hV (by omega) ⟨by decide, Or.inl rfl⟩
/-- a number that is told within bounds below 1000 -/
theorem rn_N {m a lo hi c : Nat} {T : Nat → Int32} (hh : hi ≤ 999) (hd : isDg (tb m T (sk m T a)) = true) (hag : agr (nvF T (dgE m T (sk m T a) - sk m T a) (sk m T a) 0) c) : ((rdN m T lo hi a).1 = 0 ↔ lo ≤ c ∧ c ≤ hi) ∧ ((rdN m T lo hi a).1 = 0 → c = (rdN m T lo hi a).2.1) ∧ (¬ (rdN m T lo hi a).1 = 0 → (rdN m T lo hi a).1 = 8 * sk m T a + 2) ∧ (rdN m T lo hi a).2.2.1 = sk m T a ∧ (rdN m T lo hi a).2.2.2 = dgE m T (sk m T a) := by
  rw [rdN, if_pos hd]
  generalize nvF T (dgE m T (sk m T a) - sk m T a) (sk m T a) 0 = V at *
  have key : (lo ≤ V ∧ V ≤ hi) ↔ (lo ≤ c ∧ c ≤ hi) := by
    rcases hag.2 with rfl | ⟨g1, g2⟩
    · exact Iff.rfl
    · constructor <;> (intro w; omega)
  by_cases w : lo ≤ V ∧ V ≤ hi
  · refine ⟨⟨fun _ => key.mp w, fun _ => by show (if lo ≤ V ∧ V ≤ hi then 0 else _) = 0; rw [if_pos w]⟩, fun _ => ?_, fun g => absurd (by show (if lo ≤ V ∧ V ≤ hi then 0 else _) = 0; rw [if_pos w]) g, rfl, rfl⟩
    rcases hag.2 with h | ⟨g1, g2⟩
    · exact h.symm
    · omega
  · have e : (if lo ≤ V ∧ V ≤ hi then 0 else 8 * sk m T a + 2) = 8 * sk m T a + 2 := if_neg w
    refine ⟨⟨fun g => ?_, fun g => absurd (key.mpr g) w⟩, fun g => ?_, fun _ => e, rfl, rfl⟩
    · have g' : (if lo ≤ V ∧ V ≤ hi then 0 else 8 * sk m T a + 2) = 0 := g
      omega
    · have g' : (if lo ≤ V ∧ V ≤ hi then 0 else 8 * sk m T a + 2) = 0 := g
      omega
theorem rn_Z {m a lo hi : Nat} {T : Nat → Int32} (hd : isDg (tb m T (sk m T a)) = false) : rdN m T lo hi a = (8 * sk m T a + 1, 0, sk m T a, sk m T a) := by rw [rdN, if_neg (by rw [hd]; decide)]
/-- what reading a kind's word leaves -/
def wkO (G : amG) (I : amI) (L : amL) (m : Nat) (T : Nat → Int32) (a : Nat) : amP := fun r G1 I1 L1 => G1 = G ∧ L1 = L ∧ frC I I1 ∧ (kdI m T (sk m T a) = 5 → r = some (.int (-1)) ∧ I1 17 5 = nI (8 * sk m T a + 1)) ∧ (¬ kdI m T (sk m T a) = 5 → r = some (.int (nI (kdI m T (sk m T a)))) ∧ I1 17 5 = 0 ∧ I1 17 3 = nI (sk m T a + wL (kdI m T (sk m T a))))
set_option maxRecDepth 100000 in
set_option maxHeartbeats 4000000 in
theorem b_X6_readKind_0 {z : amZ} {post : amP} {G : amG} {I : amI} {L : amL} (hz : Go z cX6_readKind RX6 2 (some .int) 6 0 0 post) (hG : Lay G)  (h : (cOk I) ∧ Wx z 0 0 12 [(0, .ref ((zB z).size + 17))] [] G (setI (skp I) 17 (upd ((skp I) 17) 4 ((skp I) 17 3))) L) : Wx z 0 0 0 [(0, .ref ((zB z).size + 17))] [] G I L := by
  have hz1 := hz.1
  refine am_aload_n hz1 dX6_readKind_0 0 rfl rfl ?_
  obtain ⟨g1, h⟩ := h
  refine am_cVf hz cv_X6_60 [] [] (c_X6_skipBlanks hG  g1) (ln_17 hG) (lk_17 hG) rfl rfl rfl ⟨Nat.le_refl _, Nat.le_refl _⟩ (Nat.le_of_ble_eq_true rfl) dX6_readKind_1 ?_
  refine am_aload_n hz1 dX6_readKind_4 0 rfl rfl ?_
  refine am_aload_n hz1 dX6_readKind_5 0 rfl rfl ?_
  refine am_getI hz1 fl_X6_23 (ln_17 hG) (lk_17 hG) rfl dX6_readKind_6 ?_
  refine am_putI hz1 fl_X6_41 (ln_17 hG) (lk_17 hG) rfl rfl (fun _ => rfl) dX6_readKind_9 ?_
  exact h
set_option maxRecDepth 100000 in
set_option maxHeartbeats 4000000 in
theorem b_X6_readKind_12 {z : amZ} {post : amP} {G : amG} {I : amI} {L : amL} (hz : Go z cX6_readKind RX6 2 (some .int) 6 0 0 post) (hG : Lay G)  (h : (((I 1 1) ≤ (I 17 3)) → Wx z 0 0 55 [(0, .ref ((zB z).size + 17)), (1, .int 0)] [] G I L) ∧ ((¬ (I 1 1) ≤ (I 17 3)) → (tpOk I) ∧ ((q_let I (I 17 3) = false) → Wx z 0 0 55 [(0, .ref ((zB z).size + 17)), (1, .int 0)] [] G I L) ∧ ((q_let I (I 17 3) = true) → Wx z 0 0 12 [(0, .ref ((zB z).size + 17))] [] G (setI I 17 (upd (I 17) 3 ((I 17 3) + (1 : Int32)))) L))) : Wx z 0 0 12 [(0, .ref ((zB z).size + 17))] [] G I L := by
  have hz1 := hz.1
  refine am_aload_n hz1 dX6_readKind_12 0 rfl rfl ?_
  refine am_getI hz1 fl_X6_23 (ln_17 hG) (lk_17 hG) rfl dX6_readKind_13 ?_
  refine am_aload_n hz1 dX6_readKind_16 0 rfl rfl ?_
  refine am_getR hz1 fl_X6_15 (ln_17 hG) (lk_17 hG) (lr_17_0 hG) rfl dX6_readKind_17 ?_
  refine am_getI hz1 fl_X6_51 (ln_1 hG) (lk_1 hG) rfl dX6_readKind_20 ?_
  refine am_icmp_ge (tgt := 53) hz1 dX6_readKind_23 (by decide) (fun c1 => ?_) (fun c1 => ?_)
  · replace h := h.1 c1
    refine am_iconst (v := 0) hz1 dX6_readKind_53 (by decide) ?_
    refine am_istore_n (lv' := [(1, .int 0), (0, .ref ((zB z).size + 17))]) hz1 dX6_readKind_54 rfl rfl rfl ?_
    exact am_sub (lv' := [(0, .ref ((zB z).size + 17)), (1, .int 0)]) [1, 0] rfl h
  · replace h := h.2 c1
    refine am_aload_n hz1 dX6_readKind_26 0 rfl rfl ?_
    refine am_getR hz1 fl_X6_15 (ln_17 hG) (lk_17 hG) (lr_17_0 hG) rfl dX6_readKind_27 ?_
    refine am_aload_n hz1 dX6_readKind_30 0 rfl rfl ?_
    refine am_getI hz1 fl_X6_23 (ln_17 hG) (lk_17 hG) rfl dX6_readKind_31 ?_
    obtain ⟨g2, h⟩ := h
    refine am_cVf hz cv_X6_63 [.int (I 17 3)] [] (c_X10_isLetterAt hG (I 17 3) g2) (ln_1 hG) (lk_1 hG) rfl rfl rfl ⟨Nat.le_refl _, Nat.le_refl _⟩ (Nat.le_of_ble_eq_true rfl) dX6_readKind_34 ?_
    refine am_ifb_eq (tgt := 53) hz1 dX6_readKind_37 (by decide) (fun c3 => ?_) (fun c3 => ?_)
    · replace h := h.1 c3
      refine am_iconst (v := 0) hz1 dX6_readKind_53 (by decide) ?_
      refine am_istore_n (lv' := [(1, .int 0), (0, .ref ((zB z).size + 17))]) hz1 dX6_readKind_54 rfl rfl rfl ?_
      exact am_sub (lv' := [(0, .ref ((zB z).size + 17)), (1, .int 0)]) [1, 0] rfl h
    · replace h := h.2 c3
      refine am_aload_n hz1 dX6_readKind_40 0 rfl rfl ?_
      refine am_dup hz1 dX6_readKind_41 rfl ?_
      refine am_getI hz1 fl_X6_23 (ln_17 hG) (lk_17 hG) rfl dX6_readKind_42 ?_
      refine am_iconst (v := 1) hz1 dX6_readKind_45 (by decide) ?_
      refine am_iadd hz1 dX6_readKind_46 ?_
      refine am_putI hz1 fl_X6_23 (ln_17 hG) (lk_17 hG) rfl rfl (fun _ => rfl) dX6_readKind_47 ?_
      refine am_goto (tgt := 12) hz1 dX6_readKind_50 (by decide) ?_
      exact h
set_option maxRecDepth 100000 in
set_option maxHeartbeats 4000000 in
theorem b_X6_readKind_55 {z : amZ} {post : amP} {G : amG} {I : amI} {L : amL} (hz : Go z cX6_readKind RX6 2 (some .int) 6 0 0 post) (hG : Lay G) {v1 : Int32} (h : (((5 : Int32) ≤ v1) → post (some (.int (-1))) G (q_blm I (I 17 4) (1 : Int32)) L) ∧ ((¬ (5 : Int32) ≤ v1) → (cOk I) ∧ (cBg I) ∧ ((q_isw I (kwI v1) = false) → Wx z 0 0 55 [(0, .ref ((zB z).size + 17)), (1, .int (v1 + 1))] [] G I L) ∧ ((q_isw I (kwI v1) = true) → post (some (.int v1)) G I L))) : Wx z 0 0 55 [(0, .ref ((zB z).size + 17)), (1, .int v1)] [] G I L := by
  have hz1 := hz.1
  refine am_iload_n hz1 dX6_readKind_55 1 rfl rfl ?_
  refine am_iconst (v := 5) hz1 dX6_readKind_56 (by decide) ?_
  refine am_icmp_ge (tgt := 79) hz1 dX6_readKind_57 (by decide) (fun c1 => ?_) (fun c1 => ?_)
  · replace h := h.1 c1
    refine am_aload_n hz1 dX6_readKind_79 0 rfl rfl ?_
    refine am_aload_n hz1 dX6_readKind_80 0 rfl rfl ?_
    refine am_getI hz1 fl_X6_41 (ln_17 hG) (lk_17 hG) rfl dX6_readKind_81 ?_
    refine am_iconst (v := 1) hz1 dX6_readKind_84 (by decide) ?_
    refine am_cVf hz cv_X6_44 [.int (I 17 4), .int 1] [] (c_X6_blame hG (I 17 4) (1 : Int32) ) (ln_17 hG) (lk_17 hG) rfl rfl rfl ⟨Nat.le_refl _, Nat.le_refl _⟩ (Nat.le_of_ble_eq_true rfl) dX6_readKind_85 ?_
    refine am_iconst (v := (-1)) hz1 dX6_readKind_88 (by decide) ?_
    exact am_ireturn hz dX6_readKind_89 h
  · replace h := h.2 c1
    refine am_aload_n hz1 dX6_readKind_60 0 rfl rfl ?_
    refine am_iload_n hz1 dX6_readKind_61 1 rfl rfl ?_
    refine am_cSf hz ct_X6_67 [.int v1] [.ref ((zB z).size + 17)] (c_X6_kindWord hG v1 ) rfl rfl rfl ⟨Nat.le_refl _, Nat.le_refl _⟩ (Nat.le_of_ble_eq_true rfl) dX6_readKind_62 ?_
    obtain ⟨g2, h⟩ := h
    obtain ⟨g3, h⟩ := h
    refine am_cVf hz cv_X6_71 [.ref (adK (zD z) (kwI v1))] [] (c_X6_isWord hG (kwI_lt _)  g2 g3) (ln_17 hG) (lk_17 hG) rfl rfl rfl ⟨Nat.le_refl _, Nat.le_refl _⟩ (Nat.le_of_ble_eq_true rfl) dX6_readKind_65 ?_
    refine am_ifb_eq (tgt := 73) hz1 dX6_readKind_68 (by decide) (fun c4 => ?_) (fun c4 => ?_)
    · replace h := h.1 c4
      refine am_iinc (v := v1 + 1) (lv' := [(1, .int (v1 + 1)), (0, .ref ((zB z).size + 17))]) hz1 dX6_readKind_73 1 rfl rfl rfl rfl ?_
      refine am_goto (tgt := 55) hz1 dX6_readKind_76 (by decide) ?_
      exact am_sub (lv' := [(0, .ref ((zB z).size + 17)), (1, .int (v1 + 1))]) [1, 0] rfl h
    · replace h := h.2 c4
      refine am_iload_n hz1 dX6_readKind_71 1 rfl rfl ?_
      exact am_ireturn hz dX6_readKind_72 h
set_option maxRecDepth 100000 in
set_option maxHeartbeats 4000000 in
theorem c_X6_readKind {l : Launch} {D : va_G} {B : Heap} {G : amG} {I : amI} {L : amL}  (hG : Lay G)   {m a : Nat} {T : Nat → Int32} (hT : rdV I m T a) (h5 : I 17 5 = 0) : Mx l D B yX6_readKind cX6_readKind 2 (some .int) 6 0 0 [.ref (B.size + 17)] G I L (wkO G I L m T a) := by
  refine Mx.of (by decide) rfl rfl (fun z e1 e2 e3 hz => ?_)
  subst e1; subst e2; subst e3
  refine b_X6_readKind_0 hz hG ?_
  have hm := hT.1
  have ha := hT.2.2.2.2.1
  obtain ⟨s1, s2⟩ := sk_le (m := m) (T := T) ha
  have hN := hT.nx
  refine ⟨hT.ok, ?_⟩
  rw [hN.2.2.2.1]
  have hX0 : frC I (setI (skp I) 17 (upd (skp I 17) 4 (nI (sk m T a)))) := frC_t skp_fr (frC_17 (by omega))
  have x3 : setI (skp I) 17 (upd (skp I 17) 4 (nI (sk m T a))) 17 3 = nI (sk m T a) := by rw [setI_s, upd_n (by decide)]; exact hN.2.2.2.1
  have x4 : setI (skp I) 17 (upd (skp I 17) 4 (nI (sk m T a))) 17 4 = nI (sk m T a) := by rw [setI_s, upd_s]
  have x5 : setI (skp I) 17 (upd (skp I 17) 4 (nI (sk m T a))) 17 5 = 0 := by rw [setI_s, upd_n (by decide), skp_5]; exact h5
  generalize setI (skp I) 17 (upd (skp I 17) 4 (nI (sk m T a))) = X0 at *
  have words : ∀ X : amI, frC I X → X 17 3 = nI (rn isLt (tb m T) m (sk m T a)) → X 17 4 = nI (sk m T a) → X 17 5 = 0 → Wx z 0 0 55 [(0, .ref ((zB z).size + 17)), (1, .int 0)] [] G X L := by
    intro X g1 g3 g4 g5
    obtain ⟨t1, t2⟩ := rn_le (p := isLt) (b := tb m T) (m := m) s2
    have hX : rdV X m T (rn isLt (tb m T) m (sk m T a)) := hT.mv g1.D g3 t2
    have hw : ∀ w, w < 5 → q_isw X w = wdM m T w (sk m T a) := fun w hw => isw_M hw hX s2 g4
    have bg : cBg X := ⟨_, by omega, g4⟩
    have main : scan (fun q => wdM m T q (sk m T a)) id 5 (5 - 0) 0 = kdI m T (sk m T a) → Wx z 0 0 55 [(0, .ref ((zB z).size + 17)), (1, .int (nI 0))] [] G X L := by
      refine for_up (P := fun j => scan (fun q => wdM m T q (sk m T a)) id 5 (5 - j) j = kdI m T (sk m T a) → Wx z 0 0 55 [(0, .ref ((zB z).size + 17)), (1, .int (nI j))] [] G X L) (n := 5) ?_ ?_ (Nat.zero_le _)
      · intro e
        rw [scan_0] at e
        refine b_X6_readKind_55 hz hG ⟨fun _ => ?_, fun w => absurd (nI_le (a := 5) (b := 5) (Nat.le_refl _) (by decide)) w⟩
        rw [q_blm, if_pos g5, g4]
        exact ⟨rfl, rfl, frC_t g1 (frC_17 (by omega)), fun _ => ⟨rfl, by rw [setI_s, upd_s]; exact n8 _ 1⟩, fun w => absurd e.symm w⟩
      · intro j hj ih e
        rw [scan_s hj] at e
        have hkw : kwI (nI j) = j := by
          have : ∀ j, j < 5 → kwI (nI j) = j := by decide
          exact this j hj
        refine b_X6_readKind_55 hz hG ⟨fun w => absurd w (nI_ge (b := 5) hj (by decide)), fun _ => ⟨hX.ok, bg, ?_⟩⟩
        rw [hkw, hw j hj, nI_1]
        refine ⟨fun w => ih (by rw [← e, if_neg (by rw [w]; decide)]), fun w => ?_⟩
        rw [if_pos w] at e
        have ej : j = kdI m T (sk m T a) := e
        have hin := wd_le hj w
        refine ⟨rfl, rfl, g1, fun x => by omega, fun _ => ⟨by rw [← ej], g5, ?_⟩⟩
        rw [g3, ← ej]
        congr 1
        have hall := (wd_t (m := m) (T := T) (w := j) (p := sk m T a)).mp (of_decide_eq_true (Bool.and_eq_true _ _ ▸ w : _ ∧ _).1)
        have hnl : isLt (tb m T (sk m T a + wL j)) = false := by
          have := (Bool.and_eq_true _ _ ▸ w : _ ∧ _).2
          cases h : isLt (tb m T (sk m T a + wL j)) with
          | false => rfl
          | true => rw [h] at this; cases this
        exact rn_eq (by omega) hin (fun i i1 i2 => by
          have := hall (i - sk m T a) (by omega)
          rw [show sk m T a + (i - sk m T a) = i by omega] at this
          rw [this]
          exact (wB_ne j hj _ (by omega)).2) (fun _ => hnl)
    exact main rfl
  have main : ∀ d k (X : amI), m - k = d → sk m T a ≤ k → k ≤ m → rn isLt (tb m T) m k = rn isLt (tb m T) m (sk m T a) → frC I X → X 17 3 = nI k → X 17 4 = nI (sk m T a) → X 17 5 = 0 → Wx z 0 0 12 [(0, .ref ((zB z).size + 17))] [] G X L := by
    intro d
    induction d with
    | zero =>
      intro k X h1 h2 h3 h4 g1 g3 g4 g5
      have hX : rdV X m T k := hT.mv g1.D g3 h3
      have e : rn isLt (tb m T) m (sk m T a) = k := by rw [← h4, rn_m (by omega)]; omega
      exact b_X6_readKind_12 hz hG ⟨fun _ => words X g1 (by rw [g3, e]) g4 g5, fun w => absurd (by rw [hX.2.1, g3]; exact nI_le (by omega) (by omega)) w⟩
    | succ d ih =>
      intro k X h1 h2 h3 h4 g1 g3 g4 g5
      have hX : rdV X m T k := hT.mv g1.D g3 h3
      have hs : rn isLt (tb m T) m k = if isLt (tb m T k) = true then rn isLt (tb m T) m (k + 1) else k := rn_s (by omega)
      refine b_X6_readKind_12 hz hG ⟨fun w => absurd w (by rw [hX.2.1, g3]; exact nI_ge (by omega) (by omega)), fun _ => ⟨hX.tp, fun w => ?_, fun w => ?_⟩⟩
      · rw [g3, hX.lett (by omega)] at w
        rw [if_neg (by rw [w]; decide)] at hs
        exact words X g1 (by rw [g3, ← h4, hs]) g4 g5
      · rw [g3, hX.lett (by omega)] at w
        rw [if_pos w] at hs
        rw [g3, nI_1]
        exact ih (k + 1) _ (by omega) (by omega) (by omega) (by rw [← hs, h4]) (frC_t g1 (frC_17 (by omega))) (by rw [setI_s, upd_s]) (by rw [setI_s, upd_n (by decide)]; exact g4) (by rw [setI_s, upd_n (by decide)]; exact g5)
  exact main _ (sk m T a) X0 rfl (Nat.le_refl _) s2 rfl hX0 x3 x4 x5
/-! the draft -/
def dO (I : amI) (n : Nat) (A : Nat → Int32) : Prop := I 10 0 = nI n ∧ 1 ≤ n ∧ n ≤ 16 ∧ (∀ x, x < n → I 11 x = A x) ∧ (∀ x, n ≤ x → x < 16 → I 11 x = 0) ∧ PO n A
theorem dO.c {I I1 : amI} {n : Nat} {A : Nat → Int32} (h : dO I n A) (hf : frC I I1) : dO I1 n A := by
  unfold dO at h ⊢
  rw [hf.1 10 (by decide), hf.1 11 (by decide)]
  exact h
theorem dO.has {I : amI} {n : Nat} {A : Nat → Int32} (h : dO I n A) {a : Nat} (ha : a < 2 ^ 31) : q_has I 10 (nI a) = decide (a < n) := by
  have := h.2.2.1
  rw [q_has, h.1, decide_eq_true (nI_pos' ha), Bool.true_and]
  exact decide_eq_decide.mpr (nI_ltI ha (by omega))
theorem dO.am {I : amI} {n : Nat} {A : Nat → Int32} (h : dO I n A) {a b : Nat} (ha : a < n) (hb : b < n) : q_atMost I 10 (nI a) (nI b) = le A a b := by
  have h16 := h.2.2.1
  rw [q_atMost, q_isBelow, h.has (by omega), h.has (by omega), decide_eq_true ha, decide_eq_true hb, cl_nI (by omega), h.2.2.2.1 a ha, le_b (by omega) (by omega), Bool.true_and, Bool.true_and, Bool.true_and, Bool.or_comm]
  congr 1
  · by_cases e : bt (A a) b = true
    · rw [e, decide_eq_true ((b_bit (A a) b (by omega)).mpr e)]
    · rw [Bool.not_eq_true] at e
      rw [e, decide_eq_false ((b_bit0 (A a) b (by omega)).mpr e)]
  · rw [decide_eq_decide, nI_eq (by omega) (by omega)]
    exact ⟨Eq.symm, Eq.symm⟩
theorem dO.sz {I : amI} {n : Nat} {A : Nat → Int32} (h : dO I n A) : szOk I 10 := ⟨n, h.2.1, h.2.2.1, h.1⟩
theorem dO.link {I : amI} {n : Nat} {A : Nat → Int32} (h : dO I n A) {a b : Nat} (ha : a < n) (hb : b < n) (hn : le A b a = false) : dO (q_link I 10 (nI a) (nI b)) n (relA n A a b) := by
  have h16 := h.2.2.1
  have hf : q_from I 10 (nI b) = upS A b := by rw [q_from, if_pos (by rw [h.has (by omega), decide_eq_true hb]), cl_nI (by omega), h.2.2.2.1 b hb, upS]
  rw [q_link, hf, sz_eq h.1 h16]
  refine ⟨by rw [setI_n (by decide)]; exact h.1, h.2.1, h16, fun x hx => ?_, fun x hx hx2 => ?_, rel_PO h.2.2.2.2.2 (by omega) ha hb hn⟩
  · rw [setI_s, q_lk, h.am hx ha, h.2.2.2.1 x hx, relA]
  · rw [setI_s, q_lk, decide_eq_false (by omega), Bool.false_and, if_neg (by decide)]
    exact h.2.2.2.2.1 x hx hx2
theorem link_fr {I : amI} {a b : Int32} : frD I (q_link I 10 a b) := frD_a (Or.inl rfl)
/-- what reading an element leaves -/
def elO (G : amG) (I : amI) (L : amL) (R : Nat × Nat × Nat × Nat) : amP := fun r G1 I1 L1 => G1 = G ∧ L1 = L ∧ frC I I1 ∧ (∃ x, r = some (.int x) ∧ (R.1 = 0 → x = nI R.2.1)) ∧ (R.1 = 0 → I1 17 5 = 0 ∧ I1 17 3 = nI R.2.2.2 ∧ I1 17 4 = nI R.2.2.1) ∧ (¬ R.1 = 0 → I1 17 5 = nI R.1)
set_option maxRecDepth 100000 in
set_option maxHeartbeats 4000000 in
theorem b_X6_readElement_0 {z : amZ} {post : amP} {G : amG} {I : amI} {L : amL} (hz : Go z cX6_readElement RX6 2 (some .int) 3 0 0 post) (hG : Lay G)  (h : (((I 17 5) = 0) → ∃ (dq2 : Nat) (postq2 : amP), Nat.ble (dq2 + 1) 3 = true ∧ Mx (zL z) (zD z) (zB z) yX6_readNumber cX6_readNumber 2 (some .int) dq2 0 0 [.ref ((zB z).size + 17)] G I L postq2 ∧ ∀ (roq2 : Option Value) (Gq2 : amG) (Iq2 : amI) (Lq2 : amL), postq2 roq2 Gq2 Iq2 Lq2 → ∃ (rq2 : Int32), roq2 = some (.int rq2) ∧ Lay Gq2 ∧ ((¬ (Iq2 17 5) = 0) → post (some (.int rq2)) Gq2 Iq2 Lq2) ∧ (((Iq2 17 5) = 0) → ((q_has Iq2 10 rq2 = true) → post (some (.int rq2)) Gq2 Iq2 Lq2) ∧ ((q_has Iq2 10 rq2 = false) → post (some (.int rq2)) Gq2 (q_blm Iq2 (Iq2 17 4) (2 : Int32)) Lq2))) ∧ ((¬ (I 17 5) = 0) → post (some (.int (-1))) G I L)) : Wx z 0 0 0 [(0, .ref ((zB z).size + 17))] [] G I L := by
  have hz1 := hz.1
  refine am_aload_n hz1 dX6_readElement_0 0 rfl rfl ?_
  refine am_getI hz1 fl_X6_27 (ln_17 hG) (lk_17 hG) rfl dX6_readElement_1 ?_
  refine am_if_eq (tgt := 9) hz1 dX6_readElement_4 (by decide) (fun c1 => ?_) (fun c1 => ?_)
  · replace h := h.1 c1
    refine am_aload_n hz1 dX6_readElement_9 0 rfl rfl ?_
    obtain ⟨dq2, postq2, hdq2, hMq2, h⟩ := h
    refine am_callV hz1 cv_X6_34 [] [] hMq2 (ln_17 hG) (lk_17 hG) rfl rfl (hz.fr hdq2) (hz.lo hdq2) (by rw [hz.2.1]; exact ⟨Nat.le_refl _, Nat.le_refl _⟩) (Nat.le_of_ble_eq_true rfl) dX6_readElement_10 (fun roq2 Gq2 Iq2 Lq2 hpq2 => ?_)
    obtain ⟨rq2, rfl, hGq2, h⟩ := h roq2 Gq2 Iq2 Lq2 hpq2
    refine am_istore_n (lv' := [(1, .int rq2), (0, .ref ((zB z).size + 17))]) hz1 dX6_readElement_13 rfl rfl rfl ?_
    refine am_aload_n hz1 dX6_readElement_14 1 rfl rfl ?_
    refine am_getI hz1 fl_X6_27 (ln_17 hGq2) (lk_17 hGq2) rfl dX6_readElement_15 ?_
    refine am_if_ne (tgt := 41) hz1 dX6_readElement_18 (by decide) (fun c3 => ?_) (fun c3 => ?_)
    · replace h := h.1 c3
      refine am_iload_n hz1 dX6_readElement_41 0 rfl rfl ?_
      exact am_ireturn hz dX6_readElement_42 h
    · replace h := h.2 c3
      refine am_aload_n hz1 dX6_readElement_21 1 rfl rfl ?_
      refine am_getR hz1 fl_X6_19 (ln_17 hGq2) (lk_17 hGq2) (lr_17_1 hGq2) rfl dX6_readElement_22 ?_
      refine am_iload_n hz1 dX6_readElement_25 0 rfl rfl ?_
      refine am_cVf hz cv_X6_122 [.int rq2] [] (c_X4_has hGq2 isO_10 rq2 ) (ln_10 hGq2) (lk_10 hGq2) rfl rfl rfl ⟨Nat.le_refl _, Nat.le_refl _⟩ (Nat.le_of_ble_eq_true rfl) dX6_readElement_26 ?_
      refine am_ifb_ne (tgt := 41) hz1 dX6_readElement_29 (by decide) (fun c4 => ?_) (fun c4 => ?_)
      · replace h := h.1 c4
        refine am_iload_n hz1 dX6_readElement_41 0 rfl rfl ?_
        exact am_ireturn hz dX6_readElement_42 h
      · replace h := h.2 c4
        refine am_aload_n hz1 dX6_readElement_32 1 rfl rfl ?_
        refine am_aload_n hz1 dX6_readElement_33 1 rfl rfl ?_
        refine am_getI hz1 fl_X6_41 (ln_17 hGq2) (lk_17 hGq2) rfl dX6_readElement_34 ?_
        refine am_iconst (v := 2) hz1 dX6_readElement_37 (by decide) ?_
        refine am_cVf hz cv_X6_44 [.int (Iq2 17 4), .int 2] [] (c_X6_blame hGq2 (Iq2 17 4) (2 : Int32) ) (ln_17 hGq2) (lk_17 hGq2) rfl rfl rfl ⟨Nat.le_refl _, Nat.le_refl _⟩ (Nat.le_of_ble_eq_true rfl) dX6_readElement_38 ?_
        refine am_iload_n hz1 dX6_readElement_41 0 rfl rfl ?_
        exact am_ireturn hz dX6_readElement_42 h
  · replace h := h.2 c1
    refine am_iconst (v := (-1)) hz1 dX6_readElement_7 (by decide) ?_
    exact am_ireturn hz dX6_readElement_8 h
set_option maxRecDepth 100000 in
set_option maxHeartbeats 4000000 in
theorem c_X6_readElement {l : Launch} {D : va_G} {B : Heap} {G : amG} {I : amI} {L : amL}  (hG : Lay G)   {m a n : Nat} {T A : Nat → Int32} (hT : rdV I m T a) (h5 : I 17 5 = 0) (hD : dO I n A) : Mx l D B yX6_readElement cX6_readElement 2 (some .int) 3 0 0 [.ref (B.size + 17)] G I L (elO G I L (rdN m T 0 (n - 1) a)) := by
  refine Mx.of (by decide) rfl rfl (fun z e1 e2 e3 hz => ?_)
  subst e1; subst e2; subst e3
  refine b_X6_readElement_0 hz hG ?_
  have h16 := hD.2.2.1
  have h1 := hD.2.1
  have hm := hT.1
  obtain ⟨s1, s2⟩ := sk_le (m := m) (T := T) hT.2.2.2.2.1
  refine ⟨fun _ => ⟨2, _, rfl, c_X6_readNumber hG hT h5, fun ro G2 I2 L2 ⟨e1, e2, e3, c, e4, e5, e6, e7, e8⟩ => ⟨_, e4, by rw [e1]; exact hG, ?_⟩⟩, fun w => absurd h5 w⟩
  rw [e1, e2]
  have hD2 := hD.c e3
  cases q : isDg (tb m T (sk m T a)) with
  | false =>
    have hR := rn_Z (lo := 0) (hi := n - 1) q
    have f5 := e8 q
    have hne : ¬ I2 17 5 = 0 := fun w => by
      rw [f5] at w
      have := (nI_eq (b := 0) (by omega) (by decide)).mp w
      omega
    refine ⟨fun _ => ?_, fun w => absurd w hne⟩
    rw [hR]
    exact ⟨rfl, rfl, e3, ⟨_, rfl, fun w => absurd w (by show ¬ 8 * sk m T a + 1 = 0; omega)⟩, fun w => absurd w (by show ¬ 8 * sk m T a + 1 = 0; omega), fun _ => f5⟩
  | true =>
    obtain ⟨f5, f3, hag⟩ := e7 q
    obtain ⟨k1, k2, k3, k4, k5⟩ := rn_N (lo := 0) (hi := n - 1) (by omega) q hag
    refine ⟨fun w => absurd f5 w, fun _ => ?_⟩
    rw [hD2.has (by omega)]
    refine ⟨fun w => ?_, fun w => ?_⟩
    · have hc : c < n := of_decide_eq_true w
      have h0 := k1.mpr ⟨Nat.zero_le _, by omega⟩
      exact ⟨rfl, rfl, e3, ⟨_, rfl, fun _ => by rw [k2 h0]⟩, fun _ => ⟨f5, by rw [k5]; exact f3, by rw [k4]; exact e6⟩, fun x => absurd h0 x⟩
    · have hc : ¬ c < n := fun x => by rw [decide_eq_true x] at w; cases w
      have h0 : ¬ (rdN m T 0 (n - 1) a).1 = 0 := fun x => by have := (k1.mp x).2; omega
      refine ⟨rfl, rfl, ?_, ⟨_, rfl, fun x => absurd x h0⟩, fun x => absurd x h0, fun _ => ?_⟩
      · rw [q_blm, if_pos f5]; exact frC_t e3 (frC_17 (by omega))
      · rw [k3 h0, q_blm, if_pos f5, setI_s, upd_s, e6]; exact n8 _ 2
set_option maxHeartbeats 4000000 in
theorem c_X6_readElementF {l : Launch} {D : va_G} {B : Heap} {G : amG} {I : amI} {L : amL} (hG : Lay G) (h5 : ¬ I 17 5 = 0) : Fx l D B yX6_readElement cX6_readElement 2 (some .int) 3 [.ref (B.size + 17)] G I L (some (.int (-1))) I L := by
  refine Mx.of (by decide) rfl rfl (fun z e1 e2 e3 hz => ?_)
  subst e1; subst e2; subst e3
  exact b_X6_readElement_0 hz hG ⟨fun w => absurd w h5, fun _ => ⟨rfl, rfl, rfl, rfl⟩⟩
