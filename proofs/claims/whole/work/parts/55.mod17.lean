/-! THE REFERENCE READS: kinds, lines, texts; tell -/
theorem kdP_fr {G G1 : amG} {I I' I1 : amI} {L L1 : amL} {m q a : Nat} {T : Nat → Int32} {r : Option Value} (hf : frR I I') (h : kdP G I' L m T q a r G1 I1 L1) : kdP G I L m T q a r G1 I1 L1 := ⟨h.1, h.2.1, h.2.2.1, frR_t hf h.2.2.2.1, h.2.2.2.2⟩
def kP (G : amG) (I : amI) (L : amL) (m : Nat) (T : Nat → Int32) (a : Nat) : amP := fun r G1 I1 L1 => if kdI m T (sk m T a) = 5 then r = some (.int 0) ∧ G1 = G ∧ L1 = L ∧ frR I I1 ∧ I1 64 9 = nI (8 * sk m T a + 1) else kdP G I L m T (kdI m T (sk m T a)) (sk m T a) r G1 I1 L1
theorem kd_if {m p : Nat} {T : Nat → Int32} : kdI m T p = if wdM m T 0 p = true then 0 else if wdM m T 1 p = true then 1 else if wdM m T 2 p = true then 2 else if wdM m T 3 p = true then 3 else if wdM m T 4 p = true then 4 else 5 := rfl
theorem kd_call {G : amG} {I : amI} {L : amL} {m a q : Nat} {T : Nat → Int32} {r : Option Value} {G1 : amG} {I1 : amI} {L1 : amL} (hG : Lay G) (hq : kdI m T (sk m T a) = q) (hq5 : q < 5) (h : kdP G (nxt I) L m T q (sk m T a) r G1 I1 L1) : ∃ x, r = some (.int x) ∧ Lay G1 ∧ (x = 0 ∨ x = 1) ∧ kP G I L m T a (some (.int x)) G1 I1 L1 := by
  refine ⟨_, h.1, by rw [h.2.1]; exact hG, bI_01 _, ?_⟩
  rw [kP, if_neg (by omega), hq, ← h.1]
  exact kdP_fr nxt_fr.R h
set_option maxRecDepth 100000 in
set_option maxHeartbeats 4000000 in
theorem b_X12_readsKind_0 {z : amZ} {post : amP} {G : amG} {I : amI} {L : amL} (hz : Go z cX12_readsKind RX12 1 (some .boolean) 6 0 0 post) (hG : Lay G)  (h : (tOk I) ∧ ((wdI I 0 = false) → (tOk (nxt I)) ∧ ((wdI (nxt I) 1 = false) → (tOk (nxt (nxt I))) ∧ ((wdI (nxt (nxt I)) 2 = false) → (tOk (nxt (nxt (nxt I)))) ∧ ((wdI (nxt (nxt (nxt I))) 3 = false) → (tOk (nxt (nxt (nxt (nxt I))))) ∧ ((wdI (nxt (nxt (nxt (nxt I)))) 4 = false) → post (some (.int (bI (false)))) G (setI (nxt (nxt (nxt (nxt (nxt I))))) 64 (upd ((nxt (nxt (nxt (nxt (nxt I))))) 64) 9 (8 * ((nxt (nxt (nxt (nxt (nxt I))))) 64 8) + (1 : Int32)))) L) ∧ ((wdI (nxt (nxt (nxt (nxt I)))) 4 = true) → ∃ (dq11 : Nat) (postq11 : amP), Nat.ble (dq11 + 1) 6 = true ∧ Mx (zL z) (zD z) (zB z) yX12_readsParts cX12_readsParts 4 (some .boolean) dq11 0 0 [.ref ((zB z).size + 64)] G (nxt (nxt (nxt (nxt (nxt I))))) L postq11 ∧ ∀ (roq11 : Option Value) (Gq11 : amG) (Iq11 : amI) (Lq11 : amL), postq11 roq11 Gq11 Iq11 Lq11 → ∃ (rq11 : Int32), roq11 = some (.int rq11) ∧ Lay Gq11 ∧ ((rq11) = 0 ∨ (rq11) = 1) ∧ post (some (.int rq11)) Gq11 Iq11 Lq11)) ∧ ((wdI (nxt (nxt (nxt I))) 3 = true) → ∃ (dq13 : Nat) (postq13 : amP), Nat.ble (dq13 + 1) 6 = true ∧ Mx (zL z) (zD z) (zB z) yX12_readsDivisors cX12_readsDivisors 4 (some .boolean) dq13 0 0 [.ref ((zB z).size + 64)] G (nxt (nxt (nxt (nxt I)))) L postq13 ∧ ∀ (roq13 : Option Value) (Gq13 : amG) (Iq13 : amI) (Lq13 : amL), postq13 roq13 Gq13 Iq13 Lq13 → ∃ (rq13 : Int32), roq13 = some (.int rq13) ∧ Lay Gq13 ∧ ((rq13) = 0 ∨ (rq13) = 1) ∧ post (some (.int rq13)) Gq13 Iq13 Lq13)) ∧ ((wdI (nxt (nxt I)) 2 = true) → ∃ (dq15 : Nat) (postq15 : amP), Nat.ble (dq15 + 1) 6 = true ∧ Mx (zL z) (zD z) (zB z) yX12_readsCube cX12_readsCube 3 (some .boolean) dq15 0 0 [.ref ((zB z).size + 64)] G (nxt (nxt (nxt I))) L postq15 ∧ ∀ (roq15 : Option Value) (Gq15 : amG) (Iq15 : amI) (Lq15 : amL), postq15 roq15 Gq15 Iq15 Lq15 → ∃ (rq15 : Int32), roq15 = some (.int rq15) ∧ Lay Gq15 ∧ ((rq15) = 0 ∨ (rq15) = 1) ∧ post (some (.int rq15)) Gq15 Iq15 Lq15)) ∧ ((wdI (nxt I) 1 = true) → ∃ (dq17 : Nat) (postq17 : amP), Nat.ble (dq17 + 1) 6 = true ∧ Mx (zL z) (zD z) (zB z) yX12_readsChain cX12_readsChain 3 (some .boolean) dq17 0 0 [.ref ((zB z).size + 64)] G (nxt (nxt I)) L postq17 ∧ ∀ (roq17 : Option Value) (Gq17 : amG) (Iq17 : amI) (Lq17 : amL), postq17 roq17 Gq17 Iq17 Lq17 → ∃ (rq17 : Int32), roq17 = some (.int rq17) ∧ Lay Gq17 ∧ ((rq17) = 0 ∨ (rq17) = 1) ∧ post (some (.int rq17)) Gq17 Iq17 Lq17)) ∧ ((wdI I 0 = true) → ∃ (dq19 : Nat) (postq19 : amP), Nat.ble (dq19 + 1) 6 = true ∧ Mx (zL z) (zD z) (zB z) yX12_readsFree cX12_readsFree 1 (some .boolean) dq19 0 0 [.ref ((zB z).size + 64)] G (nxt I) L postq19 ∧ ∀ (roq19 : Option Value) (Gq19 : amG) (Iq19 : amI) (Lq19 : amL), postq19 roq19 Gq19 Iq19 Lq19 → ∃ (rq19 : Int32), roq19 = some (.int rq19) ∧ Lay Gq19 ∧ ((rq19) = 0 ∨ (rq19) = 1) ∧ post (some (.int rq19)) Gq19 Iq19 Lq19)) : Wx z 0 0 0 [(0, .ref ((zB z).size + 64))] [] G I L := by
  have hz1 := hz.1
  refine am_aload_n hz1 dX12_readsKind_0 0 rfl rfl ?_
  refine am_ldS hz1 (index := 194) (tx := "free") (i := 0) (List.mem_of_getElem? (i := 5) rfl) dX12_readsKind_1 ?_
  obtain ⟨g1, h⟩ := h
  refine am_cVf hz cv_X12_196 [.ref (adK (zD z) 0)] [] (c_X12_isWord hG (by decide)  g1) (ln_64 hG) (lk_64 hG) rfl rfl rfl ⟨Nat.le_refl _, Nat.le_refl _⟩ (Nat.le_of_ble_eq_true rfl) dX12_readsKind_3 ?_
  refine am_ifb_eq (tgt := 14) hz1 dX12_readsKind_6 (by decide) (fun c2 => ?_) (fun c2 => ?_)
  · replace h := h.1 c2
    refine am_aload_n hz1 dX12_readsKind_14 0 rfl rfl ?_
    refine am_ldS hz1 (index := 204) (tx := "chain") (i := 1) (List.mem_of_getElem? (i := 6) rfl) dX12_readsKind_15 ?_
    obtain ⟨g3, h⟩ := h
    refine am_cVf hz cv_X12_196 [.ref (adK (zD z) 1)] [] (c_X12_isWord hG (by decide)  g3) (ln_64 hG) (lk_64 hG) rfl rfl rfl ⟨Nat.le_refl _, Nat.le_refl _⟩ (Nat.le_of_ble_eq_true rfl) dX12_readsKind_17 ?_
    refine am_ifb_eq (tgt := 28) hz1 dX12_readsKind_20 (by decide) (fun c4 => ?_) (fun c4 => ?_)
    · replace h := h.1 c4
      refine am_aload_n hz1 dX12_readsKind_28 0 rfl rfl ?_
      refine am_ldS hz1 (index := 209) (tx := "cube") (i := 2) (List.mem_of_getElem? (i := 7) rfl) dX12_readsKind_29 ?_
      obtain ⟨g5, h⟩ := h
      refine am_cVf hz cv_X12_196 [.ref (adK (zD z) 2)] [] (c_X12_isWord hG (by decide)  g5) (ln_64 hG) (lk_64 hG) rfl rfl rfl ⟨Nat.le_refl _, Nat.le_refl _⟩ (Nat.le_of_ble_eq_true rfl) dX12_readsKind_31 ?_
      refine am_ifb_eq (tgt := 42) hz1 dX12_readsKind_34 (by decide) (fun c6 => ?_) (fun c6 => ?_)
      · replace h := h.1 c6
        refine am_aload_n hz1 dX12_readsKind_42 0 rfl rfl ?_
        refine am_ldS hz1 (index := 214) (tx := "divisors") (i := 3) (List.mem_of_getElem? (i := 8) rfl) dX12_readsKind_43 ?_
        obtain ⟨g7, h⟩ := h
        refine am_cVf hz cv_X12_196 [.ref (adK (zD z) 3)] [] (c_X12_isWord hG (by decide)  g7) (ln_64 hG) (lk_64 hG) rfl rfl rfl ⟨Nat.le_refl _, Nat.le_refl _⟩ (Nat.le_of_ble_eq_true rfl) dX12_readsKind_45 ?_
        refine am_ifb_eq (tgt := 56) hz1 dX12_readsKind_48 (by decide) (fun c8 => ?_) (fun c8 => ?_)
        · replace h := h.1 c8
          refine am_aload_n hz1 dX12_readsKind_56 0 rfl rfl ?_
          refine am_ldS hz1 (index := 219) (tx := "parts") (i := 4) (List.mem_of_getElem? (i := 9) rfl) dX12_readsKind_57 ?_
          obtain ⟨g9, h⟩ := h
          refine am_cVf hz cv_X12_196 [.ref (adK (zD z) 4)] [] (c_X12_isWord hG (by decide)  g9) (ln_64 hG) (lk_64 hG) rfl rfl rfl ⟨Nat.le_refl _, Nat.le_refl _⟩ (Nat.le_of_ble_eq_true rfl) dX12_readsKind_59 ?_
          refine am_ifb_eq (tgt := 70) hz1 dX12_readsKind_62 (by decide) (fun c10 => ?_) (fun c10 => ?_)
          · replace h := h.1 c10
            refine am_aload_n hz1 dX12_readsKind_70 0 rfl rfl ?_
            refine am_iconst (v := 1) hz1 dX12_readsKind_71 (by decide) ?_
            refine am_aload_n hz1 dX12_readsKind_72 0 rfl rfl ?_
            refine am_getI hz1 fl_X12_133 (ln_64 hG) (lk_64 hG) rfl dX12_readsKind_73 ?_
            refine am_cVf hz cv_X12_164 [.int 1, .int ((nxt (nxt (nxt (nxt (nxt I))))) 64 8)] [] (c_X12_fails hG (1 : Int32) ((nxt (nxt (nxt (nxt (nxt I))))) 64 8) ) (ln_64 hG) (lk_64 hG) rfl rfl rfl ⟨Nat.le_refl _, Nat.le_refl _⟩ (Nat.le_of_ble_eq_true rfl) dX12_readsKind_76 ?_
            exact am_zreturn hz (bI_01 _) dX12_readsKind_79 h
          · replace h := h.2 c10
            refine am_aload_n hz1 dX12_readsKind_65 0 rfl rfl ?_
            obtain ⟨dq11, postq11, hdq11, hMq11, h⟩ := h
            refine am_callV hz1 cv_X12_221 [] [] hMq11 (ln_64 hG) (lk_64 hG) rfl rfl (hz.fr hdq11) (hz.lo hdq11) (by rw [hz.2.1]; exact ⟨Nat.le_refl _, Nat.le_refl _⟩) (Nat.le_of_ble_eq_true rfl) dX12_readsKind_66 (fun roq11 Gq11 Iq11 Lq11 hpq11 => ?_)
            obtain ⟨rq11, rfl, hGq11, h⟩ := h roq11 Gq11 Iq11 Lq11 hpq11
            obtain ⟨g12, h⟩ := h
            exact am_zreturn hz g12 dX12_readsKind_69 h
        · replace h := h.2 c8
          refine am_aload_n hz1 dX12_readsKind_51 0 rfl rfl ?_
          obtain ⟨dq13, postq13, hdq13, hMq13, h⟩ := h
          refine am_callV hz1 cv_X12_216 [] [] hMq13 (ln_64 hG) (lk_64 hG) rfl rfl (hz.fr hdq13) (hz.lo hdq13) (by rw [hz.2.1]; exact ⟨Nat.le_refl _, Nat.le_refl _⟩) (Nat.le_of_ble_eq_true rfl) dX12_readsKind_52 (fun roq13 Gq13 Iq13 Lq13 hpq13 => ?_)
          obtain ⟨rq13, rfl, hGq13, h⟩ := h roq13 Gq13 Iq13 Lq13 hpq13
          obtain ⟨g14, h⟩ := h
          exact am_zreturn hz g14 dX12_readsKind_55 h
      · replace h := h.2 c6
        refine am_aload_n hz1 dX12_readsKind_37 0 rfl rfl ?_
        obtain ⟨dq15, postq15, hdq15, hMq15, h⟩ := h
        refine am_callV hz1 cv_X12_211 [] [] hMq15 (ln_64 hG) (lk_64 hG) rfl rfl (hz.fr hdq15) (hz.lo hdq15) (by rw [hz.2.1]; exact ⟨Nat.le_refl _, Nat.le_refl _⟩) (Nat.le_of_ble_eq_true rfl) dX12_readsKind_38 (fun roq15 Gq15 Iq15 Lq15 hpq15 => ?_)
        obtain ⟨rq15, rfl, hGq15, h⟩ := h roq15 Gq15 Iq15 Lq15 hpq15
        obtain ⟨g16, h⟩ := h
        exact am_zreturn hz g16 dX12_readsKind_41 h
    · replace h := h.2 c4
      refine am_aload_n hz1 dX12_readsKind_23 0 rfl rfl ?_
      obtain ⟨dq17, postq17, hdq17, hMq17, h⟩ := h
      refine am_callV hz1 cv_X12_206 [] [] hMq17 (ln_64 hG) (lk_64 hG) rfl rfl (hz.fr hdq17) (hz.lo hdq17) (by rw [hz.2.1]; exact ⟨Nat.le_refl _, Nat.le_refl _⟩) (Nat.le_of_ble_eq_true rfl) dX12_readsKind_24 (fun roq17 Gq17 Iq17 Lq17 hpq17 => ?_)
      obtain ⟨rq17, rfl, hGq17, h⟩ := h roq17 Gq17 Iq17 Lq17 hpq17
      obtain ⟨g18, h⟩ := h
      exact am_zreturn hz g18 dX12_readsKind_27 h
  · replace h := h.2 c2
    refine am_aload_n hz1 dX12_readsKind_9 0 rfl rfl ?_
    obtain ⟨dq19, postq19, hdq19, hMq19, h⟩ := h
    refine am_callV hz1 cv_X12_200 [] [] hMq19 (ln_64 hG) (lk_64 hG) rfl rfl (hz.fr hdq19) (hz.lo hdq19) (by rw [hz.2.1]; exact ⟨Nat.le_refl _, Nat.le_refl _⟩) (Nat.le_of_ble_eq_true rfl) dX12_readsKind_10 (fun roq19 Gq19 Iq19 Lq19 hpq19 => ?_)
    obtain ⟨rq19, rfl, hGq19, h⟩ := h roq19 Gq19 Iq19 Lq19 hpq19
    obtain ⟨g20, h⟩ := h
    exact am_zreturn hz g20 dX12_readsKind_13 h
set_option maxRecDepth 100000 in
set_option maxHeartbeats 4000000 in
theorem c_X12_readsKind {l : Launch} {D : va_G} {B : Heap} {G : amG} {I : amI} {L : amL}  (hG : Lay G)   {m a : Nat} {T : Nat → Int32} (hT : tpO I m T a) : Mx l D B yX12_readsKind cX12_readsKind 1 (some .boolean) 6 0 0 [.ref (B.size + 64)] G I L (kP G I L m T a) := by
  refine Mx.of (by decide) rfl rfl (fun z e1 e2 e3 hz => ?_)
  subst e1; subst e2; subst e3
  refine b_X12_readsKind_0 hz hG ?_
  have hN := hT.nx
  have hid := nxt_idem hT
  rw [hid, hid, hid, hid]
  have hss : sk m T (sk m T a) = sk m T a := rn_idem hT.2.2.2.2.1
  have w0 := hT.wd (w := 0) (by decide)
  have w1 := hN.wd (w := 1) (by decide)
  have w2 := hN.wd (w := 2) (by decide)
  have w3 := hN.wd (w := 3) (by decide)
  have w4 := hN.wd (w := 4) (by decide)
  rw [hss] at w1 w2 w3 w4
  rw [w0, w1, w2, w3, w4]
  have hkd := kd_if (m := m) (T := T) (p := sk m T a)
  refine ⟨hT.ok, fun q0 => ⟨hN.ok, fun q1 => ⟨hN.ok, fun q2 => ⟨hN.ok, fun q3 => ⟨hN.ok, fun q4 => ?_, fun q4 => ?_⟩, fun q3 => ?_⟩, fun q2 => ?_⟩, fun q1 => ?_⟩, fun q0 => ?_⟩
  · rw [if_neg (by rw [q0]; decide), if_neg (by rw [q1]; decide), if_neg (by rw [q2]; decide), if_neg (by rw [q3]; decide), if_neg (by rw [q4]; decide)] at hkd
    rw [kP, if_pos hkd]
    refine ⟨rfl, rfl, rfl, frR_t nxt_fr.R (frR_64 (by omega)), ?_⟩
    rw [setI_s, upd_s, hN.2.2.2.1, show (8 : Int32) = nI 8 from rfl, show (1 : Int32) = nI 1 from rfl, nI_mul, nI_add]
  · rw [if_neg (by rw [q0]; decide), if_neg (by rw [q1]; decide), if_neg (by rw [q2]; decide), if_neg (by rw [q3]; decide), if_pos q4] at hkd
    exact ⟨3, _, rfl, c_X12_readsParts hG hN (wd_le (by decide) q4), fun ro G2 I2 L2 h => kd_call hG hkd (by decide) h⟩
  · rw [if_neg (by rw [q0]; decide), if_neg (by rw [q1]; decide), if_neg (by rw [q2]; decide), if_pos q3] at hkd
    exact ⟨3, _, rfl, c_X12_readsDivisors hG hN (wd_le (by decide) q3), fun ro G2 I2 L2 h => kd_call hG hkd (by decide) h⟩
  · rw [if_neg (by rw [q0]; decide), if_neg (by rw [q1]; decide), if_pos q2] at hkd
    exact ⟨3, _, rfl, c_X12_readsCube hG hN (wd_le (by decide) q2), fun ro G2 I2 L2 h => kd_call hG hkd (by decide) h⟩
  · rw [if_neg (by rw [q0]; decide), if_pos q1] at hkd
    exact ⟨3, _, rfl, c_X12_readsChain hG hN (wd_le (by decide) q1), fun ro G2 I2 L2 h => kd_call hG hkd (by decide) h⟩
  · rw [if_pos q0] at hkd
    exact ⟨3, _, rfl, c_X12_readsFree hG hN (wd_le (by decide) q0), fun ro G2 I2 L2 h => kd_call hG hkd (by decide) h⟩
/-! lines -/
def lnO (G : amG) (I : amI) (L : amL) (n : Nat) (R : Nat × (Nat → Int32) × Nat) : amP := fun r G1 I1 L1 => r = some (.int (bI (decide (R.1 = 0)))) ∧ G1 = G ∧ L1 = L ∧ frR I I1 ∧ (R.1 = 0 → I1 64 8 = nI R.2.2 ∧ I1 64 12 = nI n ∧ ∀ j, j < n → I1 70 j = upS R.2.1 j) ∧ (¬ R.1 = 0 → I1 64 9 = nI R.1)
theorem lnP_ok {m n : Nat} {T : Nat → Int32} (h1 : 1 ≤ n) (h16 : n ≤ 16) : ∀ f (A : Nat → Int32) low k, k ≤ m → PO n A → low < n → (lnP m T n f A low k).1 = 0 → PO n (lnP m T n f A low k).2.1 ∧ k ≤ (lnP m T n f A low k).2.2 ∧ (lnP m T n f A low k).2.2 ≤ m
  | 0, A, low, k, hk, hP, hl, _ => ⟨hP, Nat.le_refl _, hk⟩
  | f + 1, A, low, k, hk, hP, hl, h => by
    obtain ⟨s1, s2⟩ := sk_le (m := m) (T := T) hk
    rw [lnP] at h ⊢
    by_cases e : tb m T (sk m T k) = 60
    · rw [if_pos e] at h ⊢
      have hlt := tb_lt e (by decide)
      by_cases e2 : (rdN m T 0 (n - 1) (sk m T k + 1)).1 = 0
      · rw [if_pos e2] at h ⊢
        obtain ⟨v1, v2⟩ := rd_v e2
        obtain ⟨r1, r2, r3⟩ := rd_le (lo := 0) (hi := n - 1) (T := T) (show sk m T k + 1 ≤ m from hlt)
        obtain ⟨t1, t2⟩ := sk_le (m := m) (T := T) r3
        by_cases e3 : le A (rdN m T 0 (n - 1) (sk m T k + 1)).2.1 low = true
        · rw [if_pos e3] at h
          exact absurd h (by show ¬ _ = 0; omega)
        · rw [if_neg e3] at h ⊢
          have hP' : PO n (relA n A low (rdN m T 0 (n - 1) (sk m T k + 1)).2.1) := rel_PO hP (by omega) hl (by omega) (by rw [← Bool.not_eq_true]; exact e3)
          by_cases e4 : tb m T (sk m T (rdN m T 0 (n - 1) (sk m T k + 1)).2.2.2) = 60
          · rw [if_pos e4] at h ⊢
            obtain ⟨g1, g2, g3⟩ := lnP_ok h1 h16 f _ _ _ t2 hP' (by omega) h
            exact ⟨g1, by omega, g3⟩
          · rw [if_neg e4]
            exact ⟨hP', by show k ≤ sk m T _; omega, t2⟩
      · rw [if_neg e2] at h
        exact absurd h e2
    · rw [if_neg e] at h
      exact absurd h (by show ¬ _ = 0; omega)
theorem lnW_ok {m n a : Nat} {T : Nat → Int32} {A : Nat → Int32} (h1 : 1 ≤ n) (h16 : n ≤ 16) (ha : a ≤ m) (hP : PO n A) (h : (lnW m T n A a).1 = 0) : PO n (lnW m T n A a).2.1 ∧ a ≤ (lnW m T n A a).2.2 ∧ (lnW m T n A a).2.2 ≤ m := by
  rw [lnW] at h ⊢
  by_cases e : (rdN m T 0 (n - 1) a).1 = 0
  · rw [if_pos e] at h ⊢
    obtain ⟨v1, v2⟩ := rd_v e
    obtain ⟨r1, r2, r3⟩ := rd_le (lo := 0) (hi := n - 1) (T := T) ha
    obtain ⟨g1, g2, g3⟩ := lnP_ok h1 h16 (m + 1) A _ _ r3 hP (by omega) h
    exact ⟨g1, by omega, g3⟩
  · rw [if_neg e] at h
    exact absurd h e
set_option maxRecDepth 100000 in
set_option maxHeartbeats 4000000 in
theorem b_X12_readsLine_0 {z : amZ} {post : amP} {G : amG} {I : amI} {L : amL} (hz : Go z cX12_readsLine RX12 3 (some .boolean) 3 0 0 post) (hG : Lay G)  (h : ∃ (dq1 : Nat) (postq1 : amP), Nat.ble (dq1 + 1) 3 = true ∧ Mx (zL z) (zD z) (zB z) yX12_readsNumber cX12_readsNumber 5 (some .boolean) dq1 0 0 [.ref ((zB z).size + 64), .int 0, .int ((I 64 12) - (1 : Int32))] G I L postq1 ∧ ∀ (roq1 : Option Value) (Gq1 : amG) (Iq1 : amI) (Lq1 : amL), postq1 roq1 Gq1 Iq1 Lq1 → ∃ (rq1 : Int32), roq1 = some (.int rq1) ∧ Lay Gq1 ∧ ((¬ rq1 = 0) → Wx z 0 0 18 [(0, .ref ((zB z).size + 64)), (1, .int 1)] [] Gq1 Iq1 Lq1) ∧ ((rq1 = 0) → post (some (.int 0)) Gq1 Iq1 Lq1)) : Wx z 0 0 0 [(0, .ref ((zB z).size + 64))] [] G I L := by
  have hz1 := hz.1
  refine am_aload_n hz1 dX12_readsLine_0 0 rfl rfl ?_
  refine am_iconst (v := 0) hz1 dX12_readsLine_1 (by decide) ?_
  refine am_aload_n hz1 dX12_readsLine_2 0 rfl rfl ?_
  refine am_getI hz1 fl_X12_170 (ln_64 hG) (lk_64 hG) rfl dX12_readsLine_3 ?_
  refine am_iconst (v := 1) hz1 dX12_readsLine_6 (by decide) ?_
  refine am_isub hz1 dX12_readsLine_7 ?_
  obtain ⟨dq1, postq1, hdq1, hMq1, h⟩ := h
  refine am_callV hz1 cv_X12_173 [.int 0, .int ((I 64 12) - (1 : Int32))] [] hMq1 (ln_64 hG) (lk_64 hG) rfl rfl (hz.fr hdq1) (hz.lo hdq1) (by rw [hz.2.1]; exact ⟨Nat.le_refl _, Nat.le_refl _⟩) (Nat.le_of_ble_eq_true rfl) dX12_readsLine_8 (fun roq1 Gq1 Iq1 Lq1 hpq1 => ?_)
  obtain ⟨rq1, rfl, hGq1, h⟩ := h roq1 Gq1 Iq1 Lq1 hpq1
  refine am_if_ne (tgt := 16) hz1 dX12_readsLine_11 (by decide) (fun c2 => ?_) (fun c2 => ?_)
  · replace h := h.1 c2
    refine am_iconst (v := 1) hz1 dX12_readsLine_16 (by decide) ?_
    refine am_istore_n (lv' := [(1, .int 1), (0, .ref ((zB z).size + 64))]) hz1 dX12_readsLine_17 rfl rfl rfl ?_
    exact am_sub (lv' := [(0, .ref ((zB z).size + 64)), (1, .int 1)]) [1, 0] rfl h
  · replace h := h.2 c2
    refine am_iconst (v := 0) hz1 dX12_readsLine_14 (by decide) ?_
    exact am_zreturn hz (by decide) dX12_readsLine_15 h
set_option maxRecDepth 100000 in
set_option maxHeartbeats 4000000 in
theorem b_X12_readsLine_18 {z : amZ} {post : amP} {G : amG} {I : amI} {L : amL} (hz : Go z cX12_readsLine RX12 3 (some .boolean) 3 0 0 post) (hG : Lay G) {v1 : Int32} (h : ((v1 = 0) → post (some (.int 1)) G I L) ∧ ((¬ v1 = 0) → (tOk I) ∧ (((m_byte I (nI (skI I))) = (60 : Int32)) → ∃ (dq4 : Nat) (postq4 : amP), Nat.ble (dq4 + 1) 3 = true ∧ Mx (zL z) (zD z) (zB z) yX12_readsNumber cX12_readsNumber 5 (some .boolean) dq4 0 0 [.ref ((zB z).size + 64), .int 0, .int (((setI (nxt I) 64 (upd ((nxt I) 64) 8 (((nxt I) 64 8) + (1 : Int32)))) 64 12) - (1 : Int32))] G (setI (nxt I) 64 (upd ((nxt I) 64) 8 (((nxt I) 64 8) + (1 : Int32)))) L postq4 ∧ ∀ (roq4 : Option Value) (Gq4 : amG) (Iq4 : amI) (Lq4 : amL), postq4 roq4 Gq4 Iq4 Lq4 → ∃ (rq4 : Int32), roq4 = some (.int rq4) ∧ Lay Gq4 ∧ ((¬ rq4 = 0) → vp_in (Iq4 64 10) 16 ∧ ((m_has (Iq4 70 (Iq4 64 10).toNatClampNeg) (I 64 10) = false) → (w16 (Iq4 64 12)) ∧ (vp_in (Iq4 64 10) 16) ∧ (m_has (Iq4 70 (Iq4 64 10).toNatClampNeg) (I 64 10) = false) ∧ (tOk (setI Iq4 70 (m_jn (Iq4 70) (Iq4 64 12).toNatClampNeg (I 64 10) (Iq4 64 10).toNatClampNeg))) ∧ ((¬ (m_byte (setI Iq4 70 (m_jn (Iq4 70) (Iq4 64 12).toNatClampNeg (I 64 10) (Iq4 64 10).toNatClampNeg)) (nI (skI (setI Iq4 70 (m_jn (Iq4 70) (Iq4 64 12).toNatClampNeg (I 64 10) (Iq4 64 10).toNatClampNeg))))) = (60 : Int32)) → Wx z 0 0 18 [(0, .ref ((zB z).size + 64)), (1, .int 0)] [] Gq4 (nxt (setI Iq4 70 (m_jn (Iq4 70) (Iq4 64 12).toNatClampNeg (I 64 10) (Iq4 64 10).toNatClampNeg))) Lq4) ∧ (((m_byte (setI Iq4 70 (m_jn (Iq4 70) (Iq4 64 12).toNatClampNeg (I 64 10) (Iq4 64 10).toNatClampNeg)) (nI (skI (setI Iq4 70 (m_jn (Iq4 70) (Iq4 64 12).toNatClampNeg (I 64 10) (Iq4 64 10).toNatClampNeg))))) = (60 : Int32)) → Wx z 0 0 18 [(0, .ref ((zB z).size + 64)), (1, .int 1)] [] Gq4 (nxt (setI Iq4 70 (m_jn (Iq4 70) (Iq4 64 12).toNatClampNeg (I 64 10) (Iq4 64 10).toNatClampNeg))) Lq4)) ∧ ((m_has (Iq4 70 (Iq4 64 10).toNatClampNeg) (I 64 10) = true) → post (some (.int (bI (false)))) Gq4 (setI Iq4 64 (upd (Iq4 64) 9 (8 * (Iq4 64 11) + (3 : Int32)))) Lq4)) ∧ ((rq4 = 0) → post (some (.int 0)) Gq4 Iq4 Lq4)) ∧ ((¬ (m_byte I (nI (skI I))) = (60 : Int32)) → post (some (.int (bI (false)))) G (setI (nxt I) 64 (upd ((nxt I) 64) 9 (8 * ((nxt I) 64 8) + (1 : Int32)))) L))) : Wx z 0 0 18 [(0, .ref ((zB z).size + 64)), (1, .int v1)] [] G I L := by
  have hz1 := hz.1
  refine am_iload_n hz1 dX12_readsLine_18 1 rfl rfl ?_
  refine am_if_eq (tgt := 132) hz1 dX12_readsLine_19 (by decide) (fun c1 => ?_) (fun c1 => ?_)
  · replace h := h.1 c1
    refine am_iconst (v := 1) hz1 dX12_readsLine_132 (by decide) ?_
    exact am_zreturn hz (by decide) dX12_readsLine_133 h
  · replace h := h.2 c1
    refine am_aload_n hz1 dX12_readsLine_22 0 rfl rfl ?_
    refine am_getI hz1 fl_X12_167 (ln_64 hG) (lk_64 hG) rfl dX12_readsLine_23 ?_
    refine am_istore_n (lv' := [(2, .int (I 64 10)), (0, .ref ((zB z).size + 64)), (1, .int v1)]) hz1 dX12_readsLine_26 rfl rfl rfl ?_
    refine am_aload_n hz1 dX12_readsLine_27 1 rfl rfl ?_
    obtain ⟨g2, h⟩ := h
    refine am_cVf hz cv_X12_142 [] [] (c_X12_next hG  g2) (ln_64 hG) (lk_64 hG) rfl rfl rfl ⟨Nat.le_refl _, Nat.le_refl _⟩ (Nat.le_of_ble_eq_true rfl) dX12_readsLine_28 ?_
    refine am_bipush (v := 60) hz1 dX12_readsLine_31 (by decide) ?_
    refine am_icmp_eq (tgt := 46) hz1 dX12_readsLine_33 (by decide) (fun c3 => ?_) (fun c3 => ?_)
    · replace h := h.1 c3
      refine am_aload_n hz1 dX12_readsLine_46 1 rfl rfl ?_
      refine am_dup hz1 dX12_readsLine_47 rfl ?_
      refine am_getI hz1 fl_X12_133 (ln_64 hG) (lk_64 hG) rfl dX12_readsLine_48 ?_
      refine am_iconst (v := 1) hz1 dX12_readsLine_51 (by decide) ?_
      refine am_iadd hz1 dX12_readsLine_52 ?_
      refine am_putI hz1 fl_X12_133 (ln_64 hG) (lk_64 hG) rfl rfl (fun _ => rfl) dX12_readsLine_53 ?_
      refine am_aload_n hz1 dX12_readsLine_56 1 rfl rfl ?_
      refine am_iconst (v := 0) hz1 dX12_readsLine_57 (by decide) ?_
      refine am_aload_n hz1 dX12_readsLine_58 1 rfl rfl ?_
      refine am_getI hz1 fl_X12_170 (ln_64 hG) (lk_64 hG) rfl dX12_readsLine_59 ?_
      refine am_iconst (v := 1) hz1 dX12_readsLine_62 (by decide) ?_
      refine am_isub hz1 dX12_readsLine_63 ?_
      obtain ⟨dq4, postq4, hdq4, hMq4, h⟩ := h
      refine am_callV hz1 cv_X12_173 [.int 0, .int (((setI (nxt I) 64 (upd ((nxt I) 64) 8 (((nxt I) 64 8) + (1 : Int32)))) 64 12) - (1 : Int32))] [] hMq4 (ln_64 hG) (lk_64 hG) rfl rfl (hz.fr hdq4) (hz.lo hdq4) (by rw [hz.2.1]; exact ⟨Nat.le_refl _, Nat.le_refl _⟩) (Nat.le_of_ble_eq_true rfl) dX12_readsLine_64 (fun roq4 Gq4 Iq4 Lq4 hpq4 => ?_)
      obtain ⟨rq4, rfl, hGq4, h⟩ := h roq4 Gq4 Iq4 Lq4 hpq4
      refine am_if_ne (tgt := 72) hz1 dX12_readsLine_67 (by decide) (fun c5 => ?_) (fun c5 => ?_)
      · replace h := h.1 c5
        refine am_aload_n hz1 dX12_readsLine_72 1 rfl rfl ?_
        refine am_getR hz1 fl_X12_29 (ln_64 hGq4) (lk_64 hGq4) (lr_64_13 hGq4) rfl dX12_readsLine_73 ?_
        refine am_aload_n hz1 dX12_readsLine_76 1 rfl rfl ?_
        refine am_getI hz1 fl_X12_167 (ln_64 hGq4) (lk_64 hGq4) rfl dX12_readsLine_77 ?_
        obtain ⟨g6, h⟩ := h
        refine am_iald hz1 (ln_70 hGq4) (lk_70 hGq4) (by rw [(ll_70 hGq4)]; exact g6) dX12_readsLine_80 ?_
        refine am_iload_n hz1 dX12_readsLine_81 0 rfl rfl ?_
        refine am_cSf hz ct_X12_90 [.int (Iq4 70 (Iq4 64 10).toNatClampNeg), .int (I 64 10)] [] (c_X12_has hGq4 (Iq4 70 (Iq4 64 10).toNatClampNeg) (I 64 10) ) rfl rfl rfl ⟨Nat.le_refl _, Nat.le_refl _⟩ (Nat.le_of_ble_eq_true rfl) dX12_readsLine_82 ?_
        refine am_ifb_eq (tgt := 98) hz1 dX12_readsLine_85 (by decide) (fun c7 => ?_) (fun c7 => ?_)
        · replace h := h.1 c7
          refine am_aload_n hz1 dX12_readsLine_98 1 rfl rfl ?_
          refine am_getR hz1 fl_X12_29 (ln_64 hGq4) (lk_64 hGq4) (lr_64_13 hGq4) rfl dX12_readsLine_99 ?_
          refine am_aload_n hz1 dX12_readsLine_102 1 rfl rfl ?_
          refine am_getI hz1 fl_X12_170 (ln_64 hGq4) (lk_64 hGq4) rfl dX12_readsLine_103 ?_
          refine am_iload_n hz1 dX12_readsLine_106 0 rfl rfl ?_
          refine am_aload_n hz1 dX12_readsLine_107 1 rfl rfl ?_
          refine am_getI hz1 fl_X12_167 (ln_64 hGq4) (lk_64 hGq4) rfl dX12_readsLine_108 ?_
          obtain ⟨g8, h⟩ := h
          obtain ⟨g9, h⟩ := h
          obtain ⟨g10, h⟩ := h
          refine am_cSf hz ct_X12_190 [.ref ((zB z).size + 70), .int (Iq4 64 12), .int (I 64 10), .int (Iq4 64 10)] [] (c_X12_joins hGq4 (Iq4 64 12) (I 64 10) (Iq4 64 10) g8 g9 g10) rfl rfl rfl ⟨Nat.le_refl _, Nat.le_refl _⟩ (Nat.le_of_ble_eq_true rfl) dX12_readsLine_111 ?_
          refine am_aload_n hz1 dX12_readsLine_114 1 rfl rfl ?_
          obtain ⟨g11, h⟩ := h
          refine am_cVf hz cv_X12_142 [] [] (c_X12_next hGq4  g11) (ln_64 hGq4) (lk_64 hGq4) rfl rfl rfl ⟨Nat.le_refl _, Nat.le_refl _⟩ (Nat.le_of_ble_eq_true rfl) dX12_readsLine_115 ?_
          refine am_bipush (v := 60) hz1 dX12_readsLine_118 (by decide) ?_
          refine am_icmp_ne (tgt := 127) hz1 dX12_readsLine_120 (by decide) (fun c12 => ?_) (fun c12 => ?_)
          · replace h := h.1 c12
            refine am_iconst (v := 0) hz1 dX12_readsLine_127 (by decide) ?_
            refine am_istore_n (lv' := [(1, .int 0), (2, .int (I 64 10)), (0, .ref ((zB z).size + 64))]) hz1 dX12_readsLine_128 rfl rfl rfl ?_
            refine am_goto (tgt := 18) hz1 dX12_readsLine_129 (by decide) ?_
            exact am_sub (lv' := [(0, .ref ((zB z).size + 64)), (1, .int 0)]) [2, 0] rfl h
          · replace h := h.2 c12
            refine am_iconst (v := 1) hz1 dX12_readsLine_123 (by decide) ?_
            refine am_goto (tgt := 128) hz1 dX12_readsLine_124 (by decide) ?_
            refine am_istore_n (lv' := [(1, .int 1), (2, .int (I 64 10)), (0, .ref ((zB z).size + 64))]) hz1 dX12_readsLine_128 rfl rfl rfl ?_
            refine am_goto (tgt := 18) hz1 dX12_readsLine_129 (by decide) ?_
            exact am_sub (lv' := [(0, .ref ((zB z).size + 64)), (1, .int 1)]) [2, 0] rfl h
        · replace h := h.2 c7
          refine am_aload_n hz1 dX12_readsLine_88 1 rfl rfl ?_
          refine am_iconst (v := 3) hz1 dX12_readsLine_89 (by decide) ?_
          refine am_aload_n hz1 dX12_readsLine_90 1 rfl rfl ?_
          refine am_getI hz1 fl_X12_157 (ln_64 hGq4) (lk_64 hGq4) rfl dX12_readsLine_91 ?_
          refine am_cVf hz cv_X12_164 [.int 3, .int (Iq4 64 11)] [] (c_X12_fails hGq4 (3 : Int32) (Iq4 64 11) ) (ln_64 hGq4) (lk_64 hGq4) rfl rfl rfl ⟨Nat.le_refl _, Nat.le_refl _⟩ (Nat.le_of_ble_eq_true rfl) dX12_readsLine_94 ?_
          exact am_zreturn hz (bI_01 _) dX12_readsLine_97 h
      · replace h := h.2 c5
        refine am_iconst (v := 0) hz1 dX12_readsLine_70 (by decide) ?_
        exact am_zreturn hz (by decide) dX12_readsLine_71 h
    · replace h := h.2 c3
      refine am_aload_n hz1 dX12_readsLine_36 1 rfl rfl ?_
      refine am_iconst (v := 1) hz1 dX12_readsLine_37 (by decide) ?_
      refine am_aload_n hz1 dX12_readsLine_38 1 rfl rfl ?_
      refine am_getI hz1 fl_X12_133 (ln_64 hG) (lk_64 hG) rfl dX12_readsLine_39 ?_
      refine am_cVf hz cv_X12_164 [.int 1, .int ((nxt I) 64 8)] [] (c_X12_fails hG (1 : Int32) ((nxt I) 64 8) ) (ln_64 hG) (lk_64 hG) rfl rfl rfl ⟨Nat.le_refl _, Nat.le_refl _⟩ (Nat.le_of_ble_eq_true rfl) dX12_readsLine_42 ?_
      exact am_zreturn hz (bI_01 _) dX12_readsLine_45 h
set_option maxRecDepth 100000 in
set_option maxHeartbeats 4000000 in
theorem c_X12_readsLine {l : Launch} {D : va_G} {B : Heap} {G : amG} {I : amI} {L : amL}  (hG : Lay G)   {m a n : Nat} {T A : Nat → Int32} (hT : tpO I m T a) (h1 : 1 ≤ n) (h16 : n ≤ 16) (hP : PO n A) (h12 : I 64 12 = nI n) (h70 : ∀ j, j < n → I 70 j = upS A j) : Mx l D B yX12_readsLine cX12_readsLine 3 (some .boolean) 3 0 0 [.ref (B.size + 64)] G I L (lnO G I L n (lnW m T n A a)) := by
  refine Mx.of (by decide) rfl rfl (fun z e1 e2 e3 hz => ?_)
  subst e1; subst e2; subst e3
  refine b_X12_readsLine_0 hz hG ?_
  have hm := hT.1
  have ha := hT.2.2.2.2.1
  have hn1 : ∀ x : Int32, x = nI n → x - 1 = nI (n - 1) := fun x hx => by
    obtain ⟨k, rfl⟩ : ∃ k, n = k + 1 := ⟨n - 1, by omega⟩
    rw [hx, nI_pred]; rfl
  refine ⟨2, _, rfl, c_X12_readsNumber hG 0 (I 64 12 - 1) hT rfl (hn1 _ h12) (by decide) (by omega), fun ro G2 I2 L2 ⟨e1, e2, e3, e4, e5, e6⟩ => ⟨_, e1, by rw [e2]; exact hG, ?_⟩⟩
  rw [e2, e3, bI_ne, bI_eq, decide_eq_true_eq, decide_eq_false_iff_not]
  refine ⟨fun q => ?_, fun q => ?_⟩
  · obtain ⟨c1, c2, c3⟩ := e5 q
    obtain ⟨v1, v2⟩ := rd_v q
    obtain ⟨r1, r2, r3⟩ := rd_le (lo := 0) (hi := n - 1) (T := T) ha
    have hW : lnW m T n A a = lnP m T n (m + 1) A (rdN m T 0 (n - 1) a).2.1 (rdN m T 0 (n - 1) a).2.2.2 := by rw [lnW, if_pos q]
    generalize lnW m T n A a = Rw at *
    have main : ∀ f (A : Nat → Int32) low k (X : amI), m - k < f → k ≤ m → PO n A → low < n → frR I X → X 64 8 = nI k → X 64 10 = nI low → X 64 12 = nI n → (∀ j, j < n → X 70 j = upS A j) → lnP m T n f A low k = Rw → Wx z 0 0 18 [(0, .ref ((zB z).size + 64)), (1, .int 1)] [] G X L := by
      intro f
      induction f with
      | zero => intro A low k X g; omega
      | succ f ih =>
        intro A low k X g gk gP gl gf g8 g10 g12 g70 gR
        have hX : tpO X m T k := hT.mv gf g8 gk
        have hXn := hX.nx
        obtain ⟨s1, s2⟩ := sk_le (m := m) (T := T) gk
        rw [lnP] at gR
        refine b_X12_readsLine_18 hz hG ⟨fun w => absurd w (by decide), fun _ => ⟨hX.ok, ?_⟩⟩
        rw [hX.skE, hX.byte (by omega), hXn.2.2.2.1, nI_1, g10]
        refine ⟨fun w => ?_, fun w => ?_⟩
        · have hlt := tb_lt w (by decide)
          rw [if_pos w] at gR
          have hY : tpO (setI (nxt X) 64 (upd (nxt X 64) 8 (nI (sk m T k + 1)))) m T (sk m T k + 1) := hXn.mv (frR_64 (Or.inl rfl)) (by rw [setI_s, upd_s]) hlt
          have y12 : setI (nxt X) 64 (upd (nxt X 64) 8 (nI (sk m T k + 1))) 64 12 = nI n := by rw [setI_s, upd_n (by decide), nxt_fr.2 12 (by decide) (by decide) (by decide) (by decide)]; exact g12
          have y70 : setI (nxt X) 64 (upd (nxt X 64) 8 (nI (sk m T k + 1))) 70 = X 70 := by rw [setI_n (by decide), nxt_fr.1 70 (by decide)]
          refine ⟨2, _, rfl, c_X12_readsNumber hG 0 _ hY rfl (hn1 _ y12) (by decide) (by omega), fun ro G3 I3 L3 ⟨d1, d2, d3, d4, d5, d6⟩ => ⟨_, d1, by rw [d2]; exact hG, ?_⟩⟩
          have hf3 : frR I I3 := frR_t gf (frR_t nxt_fr.R (frR_t (frR_64 (Or.inl rfl)) d4.R))
          have i12 : I3 64 12 = nI n := by rw [d4.2 12 (by decide) (by decide) (by decide) (by decide)]; exact y12
          have i70 : I3 70 = X 70 := by rw [d4.1 70 (by decide)]; exact y70
          rw [d2, d3, bI_ne, bI_eq, decide_eq_true_eq, decide_eq_false_iff_not]
          refine ⟨fun q3 => ?_, fun q3 => ?_⟩
          · rw [if_pos q3] at gR
            obtain ⟨b1, b2, b3⟩ := d5 q3
            obtain ⟨u1, u2⟩ := rd_v q3
            obtain ⟨p1, p2, p3⟩ := rd_le (lo := 0) (hi := n - 1) (T := T) (show sk m T k + 1 ≤ m from hlt)
            generalize hv : (rdN m T 0 (n - 1) (sk m T k + 1)).2.1 = v at *
            generalize hq : (rdN m T 0 (n - 1) (sk m T k + 1)).2.2.2 = qe at *
            generalize hpb : (rdN m T 0 (n - 1) (sk m T k + 1)).2.2.1 = pb at *
            have hvn : v < n := by omega
            rw [b2, b3, i12, i70, cl_nI (n := v) (by omega), cl_nI (n := n) (by omega), g70 v hvn, has_b (by omega), up_b]
            refine ⟨in_nI (by omega) (by decide), fun w2 => ?_, fun w2 => ?_⟩
            · rw [if_neg (by rw [w2]; decide)] at gR
              generalize hZ : setI I3 70 (m_jn (X 70) n (nI low) v) = Z
              have z70 : Z 70 = m_jn (X 70) n (nI low) v := by rw [← hZ, setI_s]
              have hfZ : frR I Z := by rw [← hZ]; exact frR_t hf3 (frR_70 (Or.inl rfl))
              have z64 : Z 64 = I3 64 := by rw [← hZ, setI_n (by decide)]
              have hZt : tpO Z m T qe := hT.mv hfZ (by rw [z64]; exact b1) p3
              have hZn := hZt.nx
              obtain ⟨t1, t2⟩ := sk_le (m := m) (T := T) p3
              have hj : ∀ j, j < n → nxt Z 70 j = upS (relA n A low v) j := fun j hj => by
                rw [nxt_fr.1 70 (by decide), z70, m_jn, g70 j hj, g70 v hvn, has_b (by omega), up_b, decide_eq_true hj, Bool.true_and, rel_up hj]
              have n12 : nxt Z 64 12 = nI n := by rw [nxt_fr.2 12 (by decide) (by decide) (by decide) (by decide), z64]; exact i12
              rw [hZt.skE, hZt.byte (by omega)]
              refine ⟨⟨_, h16, rfl⟩, in_nI (by omega) (by decide), w2, hZt.ok, fun w4 => ?_, fun w4 => ?_⟩
              · rw [if_neg w4] at gR
                refine b_X12_readsLine_18 hz hG ⟨fun _ => ?_, fun x => absurd rfl x⟩
                rw [← gR]
                exact ⟨rfl, rfl, rfl, frR_t hfZ nxt_fr.R, fun _ => ⟨hZn.2.2.2.1, n12, hj⟩, fun x => absurd rfl x⟩
              · rw [if_pos w4] at gR
                refine ih _ v _ (nxt Z) (by omega) t2 (rel_PO gP (by omega) gl hvn w2) hvn (frR_t hfZ nxt_fr.R) hZn.2.2.2.1 ?_ n12 hj gR
                have x10 : nxt Z 64 10 = Z 64 10 := by rw [nxt, setI_s, upd_n (by decide)]
                rw [x10, z64]; exact b2
            · rw [if_pos w2] at gR
              rw [← gR]
              refine ⟨by rw [decide_eq_false (show ¬ 8 * pb + 3 = 0 by omega)], rfl, rfl, frR_t hf3 (frR_64 (by omega)), fun x => absurd x (by show ¬ 8 * pb + 3 = 0; omega), fun _ => ?_⟩
              rw [setI_s, upd_s, show (8 : Int32) = nI 8 from rfl, show (3 : Int32) = nI 3 from rfl, nI_mul, nI_add]
          · rw [if_neg q3] at gR
            rw [← gR]
            exact ⟨by rw [decide_eq_false q3]; rfl, rfl, rfl, hf3, fun x => absurd x q3, fun _ => d6 q3⟩
        · rw [if_neg w] at gR
          rw [← gR]
          refine ⟨by rw [decide_eq_false (show ¬ 8 * sk m T k + 1 = 0 by omega)], rfl, rfl, frR_t gf (frR_t nxt_fr.R (frR_64 (by omega))), fun x => absurd x (by show ¬ 8 * sk m T k + 1 = 0; omega), fun _ => ?_⟩
          rw [setI_s, upd_s, show (8 : Int32) = nI 8 from rfl, show (1 : Int32) = nI 1 from rfl, nI_mul, nI_add]
    exact main (m + 1) A _ _ I2 (by omega) r3 hP (by omega) e4.R c1 c2 (by rw [e4.2 12 (by decide) (by decide) (by decide) (by decide)]; exact h12) (fun j hj => by rw [e4.1 70 (by decide)]; exact h70 j hj) hW.symm
  · have hW : lnW m T n A a = ((rdN m T 0 (n - 1) a).1, A, a) := by rw [lnW, if_neg q]
    rw [hW]
    exact ⟨by rw [decide_eq_false q]; rfl, rfl, rfl, e4.R, fun x => absurd x q, fun _ => e6 q⟩
/-! texts -/
theorem rdK_ok {m q a : Nat} {T : Nat → Int32} (hq : q < 5) (ha : a + wL q ≤ m) (h : (rdK m T q a).1 = 0) : 1 ≤ (rdK m T q a).2.2.1 ∧ (rdK m T q a).2.2.1 ≤ 16 ∧ PO (rdK m T q a).2.2.1 (rdK m T q a).2.2.2 ∧ (rdK m T q a).2.1 ≤ m ∧ ∀ x, (rdK m T q a).2.2.1 ≤ x → (rdK m T q a).2.2.2 x = 0 := by
  by_cases e : (rdN m T (kLo q) (kHi q) (a + wL q)).1 = 0
  · by_cases e2 : kN q (rdN m T (kLo q) (kHi q) (a + wL q)).2.1 ≤ 16
    · have hk : rdK m T q a = (0, (rdN m T (kLo q) (kHi q) (a + wL q)).2.2.2, kN q (rdN m T (kLo q) (kHi q) (a + wL q)).2.1, kA (kN q (rdN m T (kLo q) (kHi q) (a + wL q)).2.1) (kR q (rdN m T (kLo q) (kHi q) (a + wL q)).2.1)) := by rw [rdK, if_pos e, if_pos e2]
      obtain ⟨v1, v2⟩ := rd_v e
      obtain ⟨r1, r2, r3⟩ := rd_le (lo := kLo q) (hi := kHi q) (T := T) ha
      rw [hk]
      generalize (rdN m T (kLo q) (kHi q) (a + wL q)).2.1 = v at *
      have h4 : q = 4 → v < 5 := fun g => by subst g; have : v ≤ 4 := v2; omega
      refine ⟨?_, e2, kA_PO e2 (fun x y w hx hy hw => kR_T hq h4 hx hy hw) (fun x y hx hy => kR_S hq h4 hx hy), r3, fun x hx => by show kA _ _ x = 0; rw [kA, if_neg (by have : kN q v ≤ x := hx; omega)]⟩
      show 1 ≤ kN q v
      have hq5 : q = 0 ∨ q = 1 ∨ q = 2 ∨ q = 3 ∨ q = 4 := by omega
      rcases hq5 with rfl | rfl | rfl | rfl | rfl
      · exact v1
      · exact v1
      · exact Nat.one_le_two_pow
      · have hv1 : 1 ≤ v := v1
        have hmem : 0 ∈ dvL v := fl_mem.mpr ⟨by omega, by rw [Nat.zero_add, Nat.mod_one]; rfl⟩
        exact List.length_pos_of_mem hmem
      · have : ∀ v, v < 5 → 1 ≤ v → 1 ≤ (ptL v).length := by decide
        exact this v (h4 rfl) v1
    · have : (rdK m T q a).1 = 8 * (rdN m T (kLo q) (kHi q) (a + wL q)).2.2.1 + 2 := by rw [rdK, if_pos e, if_neg e2]
      omega
  · have : (rdK m T q a).1 = (rdN m T (kLo q) (kHi q) (a + wL q)).1 := by rw [rdK, if_neg e]
    omega
theorem kdI_ok {m p : Nat} {T : Nat → Int32} (h : ¬ kdI m T p = 5) : kdI m T p < 5 ∧ wdM m T (kdI m T p) p = true := by
  have hk := kd_if (m := m) (T := T) (p := p)
  by_cases e0 : wdM m T 0 p = true
  · rw [if_pos e0] at hk; rw [hk]; exact ⟨by decide, e0⟩
  rw [if_neg e0] at hk
  by_cases e1 : wdM m T 1 p = true
  · rw [if_pos e1] at hk; rw [hk]; exact ⟨by decide, e1⟩
  rw [if_neg e1] at hk
  by_cases e2 : wdM m T 2 p = true
  · rw [if_pos e2] at hk; rw [hk]; exact ⟨by decide, e2⟩
  rw [if_neg e2] at hk
  by_cases e3 : wdM m T 3 p = true
  · rw [if_pos e3] at hk; rw [hk]; exact ⟨by decide, e3⟩
  rw [if_neg e3] at hk
  by_cases e4 : wdM m T 4 p = true
  · rw [if_pos e4] at hk; rw [hk]; exact ⟨by decide, e4⟩
  rw [if_neg e4] at hk
  exact absurd hk h
def txO (G : amG) (I : amI) (L : amL) (R : Nat × Nat × (Nat → Int32)) : amP := fun r G1 I1 L1 => r = some (.int (bI (decide (R.1 = 0)))) ∧ G1 = G ∧ L1 = L ∧ frR I I1 ∧ (R.1 = 0 → I1 64 12 = nI R.2.1 ∧ ∀ j, j < R.2.1 → I1 70 j = upS R.2.2 j) ∧ (¬ R.1 = 0 → I1 64 9 = nI R.1)
theorem lsP_ok {m n : Nat} {T : Nat → Int32} (h1 : 1 ≤ n) (h16 : n ≤ 16) : ∀ f (A : Nat → Int32) k, k ≤ m → PO n A → (lsP m T n f A k).1 = 0 → PO n (lsP m T n f A k).2
  | 0, A, k, hk, hP, _ => hP
  | f + 1, A, k, hk, hP, h => by
    obtain ⟨s1, s2⟩ := sk_le (m := m) (T := T) hk
    rw [lsP] at h ⊢
    by_cases e : tb m T (sk m T k) = 59
    · rw [if_pos e] at h ⊢
      have hlt := tb_lt e (by decide)
      by_cases e2 : (lnW m T n A (sk m T k + 1)).1 = 0
      · rw [if_pos e2] at h ⊢
        obtain ⟨g1, g2, g3⟩ := lnW_ok h1 h16 hlt hP e2
        exact lsP_ok h1 h16 f _ _ g3 g1 h
      · rw [if_neg e2] at h
        exact absurd h e2
    · rw [if_neg e] at h ⊢
      by_cases e2 : tb m T (sk m T k) = -1
      · rw [if_pos e2]; exact hP
      · rw [if_neg e2] at h
        exact absurd h (by show ¬ _ = 0; omega)
theorem tp_I {I X : amI} {m k : Nat} {T : Nat → Int32} (hT : tpO (setI I 64 (upd (I 64) 8 0)) m T 0) (hf : frR I X) (h8 : X 64 8 = nI k) (hk : k ≤ m) : tpO X m T k :=
  ⟨hT.1, by rw [hf.2 7 (by decide) (by decide) (by decide) (by decide) (by decide)]; have := hT.2.1; rw [setI_s, upd_n (by decide)] at this; exact this, fun i hi => by rw [hf.1 69 (by decide) (by decide) (by decide)]; have := hT.2.2.1 i hi; rw [setI_n (by decide)] at this; exact this, h8, hk, hT.2.2.2.2.2⟩
set_option maxRecDepth 100000 in
set_option maxHeartbeats 4000000 in
theorem b_X12_readsText_0 {z : amZ} {post : amP} {G : amG} {I : amI} {L : amL} (hz : Go z cX12_readsText RX12 1 (some .boolean) 7 0 0 post) (hG : Lay G)  (h : ∃ (dq1 : Nat) (postq1 : amP), Nat.ble (dq1 + 1) 7 = true ∧ Mx (zL z) (zD z) (zB z) yX12_readsKind cX12_readsKind 1 (some .boolean) dq1 0 0 [.ref ((zB z).size + 64)] G (setI I 64 (upd (I 64) 8 (0 : Int32))) L postq1 ∧ ∀ (roq1 : Option Value) (Gq1 : amG) (Iq1 : amI) (Lq1 : amL), postq1 roq1 Gq1 Iq1 Lq1 → ∃ (rq1 : Int32), roq1 = some (.int rq1) ∧ Lay Gq1 ∧ ((¬ rq1 = 0) → Wx z 0 0 14 [(0, .ref ((zB z).size + 64))] [] Gq1 Iq1 Lq1) ∧ ((rq1 = 0) → post (some (.int 0)) Gq1 Iq1 Lq1)) : Wx z 0 0 0 [(0, .ref ((zB z).size + 64))] [] G I L := by
  have hz1 := hz.1
  refine am_aload_n hz1 dX12_readsText_0 0 rfl rfl ?_
  refine am_iconst (v := 0) hz1 dX12_readsText_1 (by decide) ?_
  refine am_putI hz1 fl_X12_133 (ln_64 hG) (lk_64 hG) rfl rfl (fun _ => rfl) dX12_readsText_2 ?_
  refine am_aload_n hz1 dX12_readsText_5 0 rfl rfl ?_
  obtain ⟨dq1, postq1, hdq1, hMq1, h⟩ := h
  refine am_callV hz1 cv_X12_224 [] [] hMq1 (ln_64 hG) (lk_64 hG) rfl rfl (hz.fr hdq1) (hz.lo hdq1) (by rw [hz.2.1]; exact ⟨Nat.le_refl _, Nat.le_refl _⟩) (Nat.le_of_ble_eq_true rfl) dX12_readsText_6 (fun roq1 Gq1 Iq1 Lq1 hpq1 => ?_)
  obtain ⟨rq1, rfl, hGq1, h⟩ := h roq1 Gq1 Iq1 Lq1 hpq1
  refine am_if_ne (tgt := 14) hz1 dX12_readsText_9 (by decide) (fun c2 => ?_) (fun c2 => ?_)
  · replace h := h.1 c2
    exact h
  · replace h := h.2 c2
    refine am_iconst (v := 0) hz1 dX12_readsText_12 (by decide) ?_
    exact am_zreturn hz (by decide) dX12_readsText_13 h
set_option maxRecDepth 100000 in
set_option maxHeartbeats 4000000 in
theorem b_X12_readsText_14 {z : amZ} {post : amP} {G : amG} {I : amI} {L : amL} (hz : Go z cX12_readsText RX12 1 (some .boolean) 7 0 0 post) (hG : Lay G)  (h : (tOk I) ∧ ((¬ (m_byte I (nI (skI I))) = (59 : Int32)) → (tOk (nxt I)) ∧ (((m_byte (nxt I) (nI (skI (nxt I)))) = (-1 : Int32)) → post (some (.int 1)) G (nxt (nxt I)) L) ∧ ((¬ (m_byte (nxt I) (nI (skI (nxt I)))) = (-1 : Int32)) → ((false = false) → post (some (.int 0)) G (setI (nxt (nxt I)) 64 (upd ((nxt (nxt I)) 64) 9 (8 * ((nxt (nxt I)) 64 8) + (1 : Int32)))) L) ∧ ((false = true) → post (some (.int 1)) G (setI (nxt (nxt I)) 64 (upd ((nxt (nxt I)) 64) 9 (8 * ((nxt (nxt I)) 64 8) + (1 : Int32)))) L))) ∧ (((m_byte I (nI (skI I))) = (59 : Int32)) → ∃ (dq6 : Nat) (postq6 : amP), Nat.ble (dq6 + 1) 7 = true ∧ Mx (zL z) (zD z) (zB z) yX12_readsLine cX12_readsLine 3 (some .boolean) dq6 0 0 [.ref ((zB z).size + 64)] G (setI (nxt I) 64 (upd ((nxt I) 64) 8 (((nxt I) 64 8) + (1 : Int32)))) L postq6 ∧ ∀ (roq6 : Option Value) (Gq6 : amG) (Iq6 : amI) (Lq6 : amL), postq6 roq6 Gq6 Iq6 Lq6 → ∃ (rq6 : Int32), roq6 = some (.int rq6) ∧ Lay Gq6 ∧ ((¬ rq6 = 0) → Wx z 0 0 14 [(0, .ref ((zB z).size + 64))] [] Gq6 Iq6 Lq6) ∧ ((rq6 = 0) → post (some (.int 0)) Gq6 Iq6 Lq6))) : Wx z 0 0 14 [(0, .ref ((zB z).size + 64))] [] G I L := by
  have hz1 := hz.1
  refine am_aload_n hz1 dX12_readsText_14 0 rfl rfl ?_
  obtain ⟨g1, h⟩ := h
  refine am_cVf hz cv_X12_142 [] [] (c_X12_next hG  g1) (ln_64 hG) (lk_64 hG) rfl rfl rfl ⟨Nat.le_refl _, Nat.le_refl _⟩ (Nat.le_of_ble_eq_true rfl) dX12_readsText_15 ?_
  refine am_bipush (v := 59) hz1 dX12_readsText_18 (by decide) ?_
  refine am_icmp_ne (tgt := 42) hz1 dX12_readsText_20 (by decide) (fun c2 => ?_) (fun c2 => ?_)
  · replace h := h.1 c2
    refine am_aload_n hz1 dX12_readsText_42 0 rfl rfl ?_
    obtain ⟨g3, h⟩ := h
    refine am_cVf hz cv_X12_142 [] [] (c_X12_next hG  g3) (ln_64 hG) (lk_64 hG) rfl rfl rfl ⟨Nat.le_refl _, Nat.le_refl _⟩ (Nat.le_of_ble_eq_true rfl) dX12_readsText_43 ?_
    refine am_iconst (v := (-1)) hz1 dX12_readsText_46 (by decide) ?_
    refine am_icmp_eq (tgt := 62) hz1 dX12_readsText_47 (by decide) (fun c4 => ?_) (fun c4 => ?_)
    · replace h := h.1 c4
      refine am_iconst (v := 1) hz1 dX12_readsText_62 (by decide) ?_
      refine am_goto (tgt := 67) hz1 dX12_readsText_63 (by decide) ?_
      exact am_zreturn hz (by decide) dX12_readsText_67 h
    · replace h := h.2 c4
      refine am_aload_n hz1 dX12_readsText_50 0 rfl rfl ?_
      refine am_iconst (v := 1) hz1 dX12_readsText_51 (by decide) ?_
      refine am_aload_n hz1 dX12_readsText_52 0 rfl rfl ?_
      refine am_getI hz1 fl_X12_133 (ln_64 hG) (lk_64 hG) rfl dX12_readsText_53 ?_
      refine am_cVf hz cv_X12_164 [.int 1, .int ((nxt (nxt I)) 64 8)] [] (c_X12_fails hG (1 : Int32) ((nxt (nxt I)) 64 8) ) (ln_64 hG) (lk_64 hG) rfl rfl rfl ⟨Nat.le_refl _, Nat.le_refl _⟩ (Nat.le_of_ble_eq_true rfl) dX12_readsText_56 ?_
      refine am_ifb_eq (tgt := 66) hz1 dX12_readsText_59 (by decide) (fun c5 => ?_) (fun c5 => ?_)
      · replace h := h.1 c5
        refine am_iconst (v := 0) hz1 dX12_readsText_66 (by decide) ?_
        exact am_zreturn hz (by decide) dX12_readsText_67 h
      · replace h := h.2 c5
        refine am_iconst (v := 1) hz1 dX12_readsText_62 (by decide) ?_
        refine am_goto (tgt := 67) hz1 dX12_readsText_63 (by decide) ?_
        exact am_zreturn hz (by decide) dX12_readsText_67 h
  · replace h := h.2 c2
    refine am_aload_n hz1 dX12_readsText_23 0 rfl rfl ?_
    refine am_dup hz1 dX12_readsText_24 rfl ?_
    refine am_getI hz1 fl_X12_133 (ln_64 hG) (lk_64 hG) rfl dX12_readsText_25 ?_
    refine am_iconst (v := 1) hz1 dX12_readsText_28 (by decide) ?_
    refine am_iadd hz1 dX12_readsText_29 ?_
    refine am_putI hz1 fl_X12_133 (ln_64 hG) (lk_64 hG) rfl rfl (fun _ => rfl) dX12_readsText_30 ?_
    refine am_aload_n hz1 dX12_readsText_33 0 rfl rfl ?_
    obtain ⟨dq6, postq6, hdq6, hMq6, h⟩ := h
    refine am_callV hz1 cv_X12_227 [] [] hMq6 (ln_64 hG) (lk_64 hG) rfl rfl (hz.fr hdq6) (hz.lo hdq6) (by rw [hz.2.1]; exact ⟨Nat.le_refl _, Nat.le_refl _⟩) (Nat.le_of_ble_eq_true rfl) dX12_readsText_34 (fun roq6 Gq6 Iq6 Lq6 hpq6 => ?_)
    obtain ⟨rq6, rfl, hGq6, h⟩ := h roq6 Gq6 Iq6 Lq6 hpq6
    refine am_if_ne (tgt := 14) hz1 dX12_readsText_37 (by decide) (fun c7 => ?_) (fun c7 => ?_)
    · replace h := h.1 c7
      exact h
    · replace h := h.2 c7
      refine am_iconst (v := 0) hz1 dX12_readsText_40 (by decide) ?_
      exact am_zreturn hz (by decide) dX12_readsText_41 h
set_option maxRecDepth 100000 in
set_option maxHeartbeats 4000000 in
theorem c_X12_readsText {l : Launch} {D : va_G} {B : Heap} {G : amG} {I : amI} {L : amL}  (hG : Lay G)   {m : Nat} {T : Nat → Int32} (hT : tpO (setI I 64 (upd (I 64) 8 0)) m T 0) : Mx l D B yX12_readsText cX12_readsText 1 (some .boolean) 7 0 0 [.ref (B.size + 64)] G I L (txO G I L (txP m T)) := by
  refine Mx.of (by decide) rfl rfl (fun z e1 e2 e3 hz => ?_)
  subst e1; subst e2; subst e3
  refine b_X12_readsText_0 hz hG ?_
  have hm := hT.1
  have hA := hT
  refine ⟨6, _, rfl, c_X12_readsKind hG hA, fun ro G2 I2 L2 h => ?_⟩
  rw [kP] at h
  by_cases e : kdI m T (sk m T 0) = 5
  · rw [if_pos e] at h
    obtain ⟨d1, d2, d3, d4, d5⟩ := h
    refine ⟨_, d1, by rw [d2]; exact hG, fun q => absurd rfl q, fun _ => ?_⟩
    have hx : txP m T = (8 * sk m T 0 + 1, 0, fun _ => 0) := by rw [txP, if_pos e]
    rw [hx, d2, d3]
    exact ⟨by rw [decide_eq_false (show ¬ 8 * sk m T 0 + 1 = 0 by omega)]; rfl, rfl, rfl, frR_t (frR_64 (Or.inl rfl)) d4, fun x => absurd x (by show ¬ 8 * sk m T 0 + 1 = 0; omega), fun _ => d5⟩
  · rw [if_neg e] at h
    obtain ⟨d1, d2, d3, d4, d5, d6⟩ := h
    obtain ⟨k1, k2⟩ := kdI_ok e
    have k3 := wd_le k1 k2
    refine ⟨_, d1, by rw [d2]; exact hG, ?_⟩
    rw [d2, d3, bI_ne, bI_eq, decide_eq_true_eq, decide_eq_false_iff_not]
    have hf2 : frR I I2 := frR_t (frR_64 (Or.inl rfl)) d4
    refine ⟨fun q => ?_, fun q => ?_⟩
    · obtain ⟨b1, b2, b3⟩ := d5 q
      obtain ⟨o1, o2, o3, o4, o5⟩ := rdK_ok k1 k3 q
      have hx : txP m T = ((lsP m T (rdK m T (kdI m T (sk m T 0)) (sk m T 0)).2.2.1 (m + 1) (rdK m T (kdI m T (sk m T 0)) (sk m T 0)).2.2.2 (rdK m T (kdI m T (sk m T 0)) (sk m T 0)).2.1).1, (rdK m T (kdI m T (sk m T 0)) (sk m T 0)).2.2.1, (lsP m T (rdK m T (kdI m T (sk m T 0)) (sk m T 0)).2.2.1 (m + 1) (rdK m T (kdI m T (sk m T 0)) (sk m T 0)).2.2.2 (rdK m T (kdI m T (sk m T 0)) (sk m T 0)).2.1).2) := by rw [txP, if_neg e, if_pos q]
      generalize (rdK m T (kdI m T (sk m T 0)) (sk m T 0)).2.2.1 = n at *
      generalize (rdK m T (kdI m T (sk m T 0)) (sk m T 0)).2.2.2 = A at *
      generalize (rdK m T (kdI m T (sk m T 0)) (sk m T 0)).2.1 = k0 at *
      generalize txP m T = Rt at *
      have main : ∀ f (A : Nat → Int32) k (X : amI), m - k < f → k ≤ m → PO n A → frR I X → X 64 8 = nI k → X 64 12 = nI n → (∀ j, j < n → X 70 j = upS A j) → Rt = ((lsP m T n f A k).1, n, (lsP m T n f A k).2) → Wx z 0 0 14 [(0, .ref ((zB z).size + 64))] [] G X L := by
        intro f
        induction f with
        | zero => intro A k X g; omega
        | succ f ih =>
          intro A k X g gk gP gf g8 g12 g70 gR
          have hX : tpO X m T k := tp_I hT gf g8 gk
          have hXn := hX.nx
          have hid := nxt_idem hX
          obtain ⟨s1, s2⟩ := sk_le (m := m) (T := T) gk
          have hss : sk m T (sk m T k) = sk m T k := rn_idem gk
          have n12 : nxt X 64 12 = nI n := by rw [nxt_fr.2 12 (by decide) (by decide) (by decide) (by decide)]; exact g12
          have n70 : nxt X 70 = X 70 := nxt_fr.1 70 (by decide)
          rw [lsP] at gR
          refine b_X12_readsText_14 hz hG ⟨hX.ok, ?_⟩
          rw [hid, hX.skE, hX.byte (by omega), hXn.skE, hss, hXn.byte (by omega), hXn.2.2.2.1, nI_1]
          refine ⟨fun w => ⟨hXn.ok, fun w2 => ?_, fun w2 => ⟨fun _ => ?_, fun x => by cases x⟩⟩, fun w => ?_⟩
          · rw [if_neg w, if_pos w2] at gR
            rw [gR]
            exact ⟨rfl, rfl, rfl, frR_t gf nxt_fr.R, fun _ => ⟨n12, fun j hj => by rw [n70]; exact g70 j hj⟩, fun x => absurd rfl x⟩
          · rw [if_neg w, if_neg w2] at gR
            rw [gR]
            refine ⟨by rw [decide_eq_false (show ¬ 8 * sk m T k + 1 = 0 by omega)]; rfl, rfl, rfl, frR_t gf (frR_t nxt_fr.R (frR_64 (by omega))), fun x => absurd x (by show ¬ 8 * sk m T k + 1 = 0; omega), fun _ => ?_⟩
            rw [setI_s, upd_s, show (8 : Int32) = nI 8 from rfl, show (1 : Int32) = nI 1 from rfl, nI_mul, nI_add]
          · have hlt := tb_lt w (by decide)
            rw [if_pos w] at gR
            have hY : tpO (setI (nxt X) 64 (upd (nxt X 64) 8 (nI (sk m T k + 1)))) m T (sk m T k + 1) := hXn.mv (frR_64 (Or.inl rfl)) (by rw [setI_s, upd_s]) hlt
            have y12 : setI (nxt X) 64 (upd (nxt X 64) 8 (nI (sk m T k + 1))) 64 12 = nI n := by rw [setI_s, upd_n (by decide)]; exact n12
            have y70 : setI (nxt X) 64 (upd (nxt X 64) 8 (nI (sk m T k + 1))) 70 = X 70 := by rw [setI_n (by decide)]; exact n70
            refine ⟨3, _, rfl, c_X12_readsLine hG hY o1 o2 gP y12 (fun j hj => by rw [y70]; exact g70 j hj), fun ro G3 I3 L3 ⟨c1, c2, c3, c4, c5, c6⟩ => ⟨_, c1, by rw [c2]; exact hG, ?_⟩⟩
            rw [c2, c3, bI_ne, bI_eq, decide_eq_true_eq, decide_eq_false_iff_not]
            have hf3 : frR I I3 := frR_t gf (frR_t nxt_fr.R (frR_t (frR_64 (Or.inl rfl)) c4))
            refine ⟨fun q3 => ?_, fun q3 => ?_⟩
            · rw [if_pos q3] at gR
              obtain ⟨l1, l2, l3⟩ := lnW_ok o1 o2 hlt gP q3
              obtain ⟨m1, m2, m3⟩ := c5 q3
              exact ih _ _ I3 (by omega) l3 l1 hf3 m1 m2 m3 gR
            · rw [if_neg q3] at gR
              rw [gR]
              exact ⟨by rw [decide_eq_false q3]; rfl, rfl, rfl, hf3, fun x => absurd x q3, fun _ => c6 q3⟩
      exact main (m + 1) A k0 I2 (by omega) o4 o3 hf2 b1 b2 b3 hx
    · have hx : txP m T = ((rdK m T (kdI m T (sk m T 0)) (sk m T 0)).1, 0, fun _ => 0) := by rw [txP, if_neg e, if_neg q]
      rw [hx]
      exact ⟨by rw [decide_eq_false q]; rfl, rfl, rfl, hf2, fun x => absurd x q, fun _ => d6 q⟩
theorem txP_ok {m : Nat} {T : Nat → Int32} (h : (txP m T).1 = 0) : 1 ≤ (txP m T).2.1 ∧ (txP m T).2.1 ≤ 16 ∧ PO (txP m T).2.1 (txP m T).2.2 := by
  by_cases e : kdI m T (sk m T 0) = 5
  · have hx : txP m T = (8 * sk m T 0 + 1, 0, fun _ => 0) := by rw [txP, if_pos e]
    rw [hx] at h
    exact absurd h (by show ¬ _ = 0; omega)
  · obtain ⟨k1, k2⟩ := kdI_ok e
    have k3 := wd_le k1 k2
    by_cases q : (rdK m T (kdI m T (sk m T 0)) (sk m T 0)).1 = 0
    · obtain ⟨o1, o2, o3, o4, o5⟩ := rdK_ok k1 k3 q
      rw [txP, if_neg e, if_pos q] at h ⊢
      exact ⟨o1, o2, lsP_ok o1 o2 _ _ _ o4 o3 h⟩
    · rw [txP, if_neg e, if_neg q] at h
      exact absurd h q
/-! tell -/
def tpS (s : St) : St := (sC s, s0 s, s1 s, sE s, (0, (sT s).2), sH s)
def xTell (s : St) : Int32 × St := if (txP (sT s).1 (sT s).2).1 = 0 then (nI (txP (sT s).1 (sT s).2).2.1, adoptS (tpS s) (txP (sT s).1 (sT s).2).2.1 (txP (sT s).1 (sT s).2).2.2) else (-2 - nI (txP (sT s).1 (sT s).2).1, tpS s)
theorem WF_tp {s : St} (h : WF s) : WF (tpS s) := ⟨h.1, h.2.1, h.2.2.1, h.2.2.2.1, h.2.2.2.2.1, h.2.2.2.2.2.1, Nat.zero_le _, fun i hi => absurd hi (Nat.not_lt_zero _), h.2.2.2.2.2.2.2.2⟩
theorem frR_M {I I1 : amI} {L : amL} (h : frR I I1) : frM I L I1 L := fun p hp => ⟨h.1 p (by omega) (by omega) (by omega), rfl⟩
set_option maxRecDepth 100000 in
set_option maxHeartbeats 4000000 in
theorem b_X12_tell_0 {z : amZ} {post : amP} {G : amG} {I : amI} {L : amL} (hz : Go z cX12_tell RX12 2 (some .int) 8 0 0 post) (hG : Lay G)  (h : ∃ (dq1 : Nat) (postq1 : amP), Nat.ble (dq1 + 1) 8 = true ∧ Mx (zL z) (zD z) (zB z) yX12_readsText cX12_readsText 1 (some .boolean) dq1 0 0 [.ref ((zB z).size + 64)] G I L postq1 ∧ ∀ (roq1 : Option Value) (Gq1 : amG) (Iq1 : amI) (Lq1 : amL), postq1 roq1 Gq1 Iq1 Lq1 → ∃ (rq1 : Int32), roq1 = some (.int rq1) ∧ Lay Gq1 ∧ ((¬ rq1 = 0) → (muOk (setI Iq1 64 (upd (Iq1 64) 7 (0 : Int32)))) ∧ post (some (.int (m_many (setL (setL Lq1 66 (m_ka (setI Iq1 64 (upd (Iq1 64) 7 (0 : Int32))) Lq1)) 65 (m_tk ((setL Lq1 66 (m_ka (setI Iq1 64 (upd (Iq1 64) 7 (0 : Int32))) Lq1)) 65) ((setI (setI Iq1 64 (upd (Iq1 64) 7 (0 : Int32))) 64 (upd ((setI Iq1 64 (upd (Iq1 64) 7 (0 : Int32))) 64) 2 (nI (kaU (setI Iq1 64 (upd (Iq1 64) 7 (0 : Int32))) + 1)))) 70) ((setI (setI Iq1 64 (upd (Iq1 64) 7 (0 : Int32))) 64 (upd ((setI Iq1 64 (upd (Iq1 64) 7 (0 : Int32))) 64) 2 (nI (kaU (setI Iq1 64 (upd (Iq1 64) 7 (0 : Int32))) + 1)))) 64 12) ((setI (setI Iq1 64 (upd (Iq1 64) 7 (0 : Int32))) 64 (upd ((setI Iq1 64 (upd (Iq1 64) 7 (0 : Int32))) 64) 2 (nI (kaU (setI Iq1 64 (upd (Iq1 64) 7 (0 : Int32))) + 1)))) 64 5)))))) Gq1 (setI (setI (setI Iq1 64 (upd (Iq1 64) 7 (0 : Int32))) 64 (upd ((setI Iq1 64 (upd (Iq1 64) 7 (0 : Int32))) 64) 2 (nI (kaU (setI Iq1 64 (upd (Iq1 64) 7 (0 : Int32))) + 1)))) 64 (upd ((setI (setI Iq1 64 (upd (Iq1 64) 7 (0 : Int32))) 64 (upd ((setI Iq1 64 (upd (Iq1 64) 7 (0 : Int32))) 64) 2 (nI (kaU (setI Iq1 64 (upd (Iq1 64) 7 (0 : Int32))) + 1)))) 64) 24 0)) (setL (setL Lq1 66 (m_ka (setI Iq1 64 (upd (Iq1 64) 7 (0 : Int32))) Lq1)) 65 (m_tk ((setL Lq1 66 (m_ka (setI Iq1 64 (upd (Iq1 64) 7 (0 : Int32))) Lq1)) 65) ((setI (setI Iq1 64 (upd (Iq1 64) 7 (0 : Int32))) 64 (upd ((setI Iq1 64 (upd (Iq1 64) 7 (0 : Int32))) 64) 2 (nI (kaU (setI Iq1 64 (upd (Iq1 64) 7 (0 : Int32))) + 1)))) 70) ((setI (setI Iq1 64 (upd (Iq1 64) 7 (0 : Int32))) 64 (upd ((setI Iq1 64 (upd (Iq1 64) 7 (0 : Int32))) 64) 2 (nI (kaU (setI Iq1 64 (upd (Iq1 64) 7 (0 : Int32))) + 1)))) 64 12) ((setI (setI Iq1 64 (upd (Iq1 64) 7 (0 : Int32))) 64 (upd ((setI Iq1 64 (upd (Iq1 64) 7 (0 : Int32))) 64) 2 (nI (kaU (setI Iq1 64 (upd (Iq1 64) 7 (0 : Int32))) + 1)))) 64 5)))) ∧ ((rq1 = 0) → post (some (.int ((-2 : Int32) - ((setI Iq1 64 (upd (Iq1 64) 7 (0 : Int32))) 64 9)))) Gq1 (setI Iq1 64 (upd (Iq1 64) 7 (0 : Int32))) Lq1)) : Wx z 0 0 0 [(0, .ref ((zB z).size + 64))] [] G I L := by
  have hz1 := hz.1
  refine am_aload_n hz1 dX12_tell_0 0 rfl rfl ?_
  obtain ⟨dq1, postq1, hdq1, hMq1, h⟩ := h
  refine am_callV hz1 cv_X12_230 [] [] hMq1 (ln_64 hG) (lk_64 hG) rfl rfl (hz.fr hdq1) (hz.lo hdq1) (by rw [hz.2.1]; exact ⟨Nat.le_refl _, Nat.le_refl _⟩) (Nat.le_of_ble_eq_true rfl) dX12_tell_1 (fun roq1 Gq1 Iq1 Lq1 hpq1 => ?_)
  obtain ⟨rq1, rfl, hGq1, h⟩ := h roq1 Gq1 Iq1 Lq1 hpq1
  refine am_istore_n (lv' := [(1, .int rq1), (0, .ref ((zB z).size + 64))]) hz1 dX12_tell_4 rfl rfl rfl ?_
  refine am_aload_n hz1 dX12_tell_5 1 rfl rfl ?_
  refine am_iconst (v := 0) hz1 dX12_tell_6 (by decide) ?_
  refine am_putI hz1 fl_X12_130 (ln_64 hGq1) (lk_64 hGq1) rfl rfl (fun _ => rfl) dX12_tell_7 ?_
  refine am_iload_n hz1 dX12_tell_10 0 rfl rfl ?_
  refine am_if_ne (tgt := 22) hz1 dX12_tell_11 (by decide) (fun c2 => ?_) (fun c2 => ?_)
  · replace h := h.1 c2
    refine am_aload_n hz1 dX12_tell_22 1 rfl rfl ?_
    obtain ⟨g3, h⟩ := h
    refine am_cVf hz cv_X12_233 [] [] (c_X12_keepsAct hGq1  g3) (ln_64 hGq1) (lk_64 hGq1) rfl rfl rfl ⟨Nat.le_refl _, Nat.le_refl _⟩ (Nat.le_of_ble_eq_true rfl) dX12_tell_23 ?_
    refine am_aload_n hz1 dX12_tell_26 1 rfl rfl ?_
    refine am_cVf hz cv_X12_236 [] [] (c_X12_takesTold hGq1  ) (ln_64 hGq1) (lk_64 hGq1) rfl rfl rfl ⟨Nat.le_refl _, Nat.le_refl _⟩ (Nat.le_of_ble_eq_true rfl) dX12_tell_27 ?_
    refine am_aload_n hz1 dX12_tell_30 1 rfl rfl ?_
    refine am_cVf hz cv_X12_78 [] [] (c_X12_many hGq1  ) (ln_64 hGq1) (lk_64 hGq1) rfl rfl rfl ⟨Nat.le_refl _, Nat.le_refl _⟩ (Nat.le_of_ble_eq_true rfl) dX12_tell_31 ?_
    exact am_ireturn hz dX12_tell_34 h
  · replace h := h.2 c2
    refine am_bipush (v := (-2)) hz1 dX12_tell_14 (by decide) ?_
    refine am_aload_n hz1 dX12_tell_16 1 rfl rfl ?_
    refine am_getI hz1 fl_X12_139 (ln_64 hGq1) (lk_64 hGq1) rfl dX12_tell_17 ?_
    refine am_isub hz1 dX12_tell_20 ?_
    exact am_ireturn hz dX12_tell_21 h
set_option maxRecDepth 100000 in
set_option maxHeartbeats 4000000 in
theorem c_X12_tell {l : Launch} {D : va_G} {B : Heap} {G : amG} {I : amI} {L : amL}  (hG : Lay G)   {s : St} (hs : RI s I L) (hw : WF s) : Mx l D B yX12_tell cX12_tell 2 (some .int) 8 0 0 [.ref (B.size + 64)] G I L (fun r G1 I1 L1 => r = some (.int (xTell s).1) ∧ G1 = G ∧ RI (xTell s).2 I1 L1 ∧ frM I L I1 L1) := by
  refine Mx.of (by decide) rfl rfl (fun z e1 e2 e3 hz => ?_)
  subst e1; subst e2; subst e3
  refine b_X12_tell_0 hz hG ?_
  have hm := hw.2.2.2.2.2.2.1
  have hT : tpO (setI I 64 (upd (I 64) 8 0)) (sT s).1 (sT s).2 0 := ⟨hm, by rw [setI_s, upd_n (by decide)]; exact hs.2.2.2.2.1, fun i hi => by rw [setI_n (by decide)]; exact hs.2.2.2.2.2.1 i hi, by rw [setI_s, upd_s]; rfl, Nat.zero_le _, hw.2.2.2.2.2.2.2.1⟩
  refine ⟨7, _, rfl, c_X12_readsText hG hT, fun ro G2 I2 L2 ⟨d1, d2, d3, d4, d5, d6⟩ => ⟨_, d1, by rw [d2]; exact hG, ?_⟩⟩
  rw [d2, d3, bI_ne, bI_eq, decide_eq_true_eq, decide_eq_false_iff_not]
  obtain ⟨g1, g2, g3, g4, g5, g6, g7, g8, g9⟩ := id hs
  have fq := d4.2
  have f64 : ∀ k, k ≠ 7 → setI I2 64 (upd (I2 64) 7 0) 64 k = I2 64 k := fun k hk => by rw [setI_s, upd_n hk]
  have hs2 : RI s I2 L := RI_c hs rfl rfl (d4.1 67 (by decide) (by decide) (by decide)) (d4.1 68 (by decide) (by decide) (by decide)) (d4.1 69 (by decide) (by decide) (by decide)) (fq 2 (by decide) (by decide) (by decide) (by decide) (by decide)) (fq 5 (by decide) (by decide) (by decide) (by decide) (by decide)) (fq 7 (by decide) (by decide) (by decide) (by decide) (by decide)) (TyK_c (fq 24 (by decide) (by decide) (by decide) (by decide) (by decide)) (fq 25 (by decide) (by decide) (by decide) (by decide) (by decide)) (d4.1 80 (by decide) (by decide) (by decide)) (d4.1 81 (by decide) (by decide) (by decide)) g9)
  have hs3 : RI (tpS s) (setI I2 64 (upd (I2 64) 7 0)) L := RI_tp hs2 (by rw [setI_s, upd_s]; rfl) (fun i hi => absurd hi (Nat.not_lt_zero _)) (f64 2 (by decide)) (f64 5 (by decide)) (f64 24 (by decide)) (f64 25 (by decide)) (fun q q1 _ => setI_n q1)
  have hw3 := WF_tp hw
  have hf3 : frM I L (setI I2 64 (upd (I2 64) 7 0)) L := frM_t (frR_M d4) frM_64
  refine ⟨fun q => ⟨mu_ok hs3 hw3, ?_⟩, fun q => ?_⟩
  · obtain ⟨t1, t2, t3⟩ := txP_ok q
    obtain ⟨b1, b2⟩ := d5 q
    have hx : xTell s = (nI (txP (sT s).1 (sT s).2).2.1, adoptS (tpS s) (txP (sT s).1 (sT s).2).2.1 (txP (sT s).1 (sT s).2).2.2) := by rw [xTell, if_pos q]
    rw [hx]
    have hk := KA hs3 hw3
    refine AD hk (frM_t hf3 KA_fr) t1 t2 t3 ?_ ?_
    · rw [setI_s, upd_n (by decide), setI_s, upd_n (by decide)]; exact b1
    · intro j hj
      rw [setI_n (by decide), setI_n (by decide)]; exact b2 j hj
  · have hx : xTell s = (-2 - nI (txP (sT s).1 (sT s).2).1, tpS s) := by rw [xTell, if_neg q]
    rw [hx, f64 9 (by decide), d6 q]
    exact ⟨rfl, rfl, hs3, hf3⟩
