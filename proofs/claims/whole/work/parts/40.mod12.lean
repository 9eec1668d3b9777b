/-! THE REFERENCE: types -/
theorem ct_sur {f : Nat → Bool} {i : Nat} : ∀ {n : Nat}, i < ct f n → ∃ x, x < n ∧ f x = true ∧ ct f x = i
  | 0, h => absurd h (Nat.not_lt_zero _)
  | n + 1, h => by
    rw [ct] at h
    by_cases e : i < ct f n
    · obtain ⟨x, h1, h2, h3⟩ := ct_sur e
      exact ⟨x, by omega, h2, h3⟩
    · by_cases hf : f n = true
      · rw [if_pos hf] at h
        exact ⟨n, by omega, hf, by omega⟩
      · rw [if_neg hf] at h; omega
/-- what the search for a likeness may change -/
def frA (I I1 : amI) : Prop := (∀ q, q ≠ 64 → q ≠ 82 → q ≠ 83 → I1 q = I q) ∧ ∀ k, k ≠ 30 → k ≠ 31 → I1 64 k = I 64 k
theorem frA_r {I : amI} : frA I I := ⟨fun _ _ _ _ => rfl, fun _ _ _ => rfl⟩
theorem frA_t {I I1 I2 : amI} (h : frA I I1) (h2 : frA I1 I2) : frA I I2 := ⟨fun q a b c => by rw [h2.1 q a b c, h.1 q a b c], fun k a b => by rw [h2.2 k a b, h.2 k a b]⟩
set_option maxRecDepth 100000 in
set_option maxHeartbeats 4000000 in
theorem b_X12_areAlike_0 {z : amZ} {post : amP} {G : amG} {I : amI} {L : amL} (hz : Go z cX12_areAlike RX12 5 (some .boolean) 41 0 0 post) (hG : Lay G) {v1 : Int32} {v2 : Int32} (h : (s16 v1) ∧ (s16 v2) ∧ (((m_size v1) = (m_size v2)) → Wx z 0 0 28 [(0, .ref ((zB z).size + 64)), (1, .int v1), (2, .int v2), (3, .int 0), (4, .int 0)] [] G (setI (setI I 64 (upd (I 64) 30 v1)) 64 (upd ((setI I 64 (upd (I 64) 30 v1)) 64) 31 v2)) L) ∧ ((¬ (m_size v1) = (m_size v2)) → post (some (.int 0)) G I L)) : Wx z 0 0 0 [(0, .ref ((zB z).size + 64)), (1, .int v1), (2, .int v2)] [] G I L := by
  have hz1 := hz.1
  refine am_iload_n hz1 dX12_areAlike_0 1 rfl rfl ?_
  obtain ⟨g1, h⟩ := h
  refine am_cSf hz ct_X12_111 [.int v1] [] (c_X12_size hG v1 g1) rfl rfl rfl ⟨Nat.le_refl _, Nat.le_refl _⟩ (Nat.le_of_ble_eq_true rfl) dX12_areAlike_1 ?_
  refine am_iload_n hz1 dX12_areAlike_4 2 rfl rfl ?_
  obtain ⟨g2, h⟩ := h
  refine am_cSf hz ct_X12_111 [.int v2] [.int (m_size v1)] (c_X12_size hG v2 g2) rfl rfl rfl ⟨Nat.le_refl _, Nat.le_refl _⟩ (Nat.le_of_ble_eq_true rfl) dX12_areAlike_5 ?_
  refine am_icmp_eq (tgt := 13) hz1 dX12_areAlike_8 (by decide) (fun c3 => ?_) (fun c3 => ?_)
  · replace h := h.1 c3
    refine am_aload_n hz1 dX12_areAlike_13 0 rfl rfl ?_
    refine am_iload_n hz1 dX12_areAlike_14 1 rfl rfl ?_
    refine am_putI hz1 fl_X12_416 (ln_64 hG) (lk_64 hG) rfl rfl (fun _ => rfl) dX12_areAlike_15 ?_
    refine am_aload_n hz1 dX12_areAlike_18 0 rfl rfl ?_
    refine am_iload_n hz1 dX12_areAlike_19 2 rfl rfl ?_
    refine am_putI hz1 fl_X12_422 (ln_64 hG) (lk_64 hG) rfl rfl (fun _ => rfl) dX12_areAlike_20 ?_
    refine am_iconst (v := 0) hz1 dX12_areAlike_23 (by decide) ?_
    refine am_istore_n (lv' := [(3, .int 0), (0, .ref ((zB z).size + 64)), (1, .int v1), (2, .int v2)]) hz1 dX12_areAlike_24 rfl rfl rfl ?_
    refine am_iconst (v := 0) hz1 dX12_areAlike_25 (by decide) ?_
    refine am_istore (lv' := [(4, .int 0), (3, .int 0), (0, .ref ((zB z).size + 64)), (1, .int v1), (2, .int v2)]) hz1 dX12_areAlike_26 rfl rfl ?_
    exact am_sub (lv' := [(0, .ref ((zB z).size + 64)), (1, .int v1), (2, .int v2), (3, .int 0), (4, .int 0)]) [2, 3, 4, 1, 0] rfl h
  · replace h := h.2 c3
    refine am_iconst (v := 0) hz1 dX12_areAlike_11 (by decide) ?_
    exact am_zreturn hz (by decide) dX12_areAlike_12 h
set_option maxRecDepth 100000 in
set_option maxHeartbeats 4000000 in
theorem b_X12_areAlike_28 {z : amZ} {post : amP} {G : amG} {I : amI} {L : amL} (hz : Go z cX12_areAlike RX12 5 (some .boolean) 41 0 0 post) (hG : Lay G) {v1 : Int32} {v2 : Int32} {v3 : Int32} {v4 : Int32} (h : (((m_many L) ≤ v4) → ∃ (dq2 : Nat) (postq2 : amP), Nat.ble (dq2 + 1) 41 = true ∧ Mx (zL z) (zD z) (zB z) yX12_pairsOn cX12_pairsOn 4 (some .boolean) dq2 0 0 [.ref ((zB z).size + 64), .int 0, .int v2] G I L postq2 ∧ ∀ (roq2 : Option Value) (Gq2 : amG) (Iq2 : amI) (Lq2 : amL), postq2 roq2 Gq2 Iq2 Lq2 → ∃ (rq2 : Int32), roq2 = some (.int rq2) ∧ Lay Gq2 ∧ ((rq2) = 0 ∨ (rq2) = 1) ∧ post (some (.int rq2)) Gq2 Iq2 Lq2) ∧ ((¬ (m_many L) ≤ v4) → ((m_has v1 v4 = true) → vp_in v3 16 ∧ Wx z 0 0 28 [(0, .ref ((zB z).size + 64)), (1, .int v1), (2, .int v2), (3, .int (v3 + 1)), (4, .int (v4 + 1))] [] G (setI I 82 (upd (I 82) v3.toNatClampNeg v4)) L) ∧ ((m_has v1 v4 = false) → Wx z 0 0 28 [(0, .ref ((zB z).size + 64)), (1, .int v1), (2, .int v2), (3, .int v3), (4, .int (v4 + 1))] [] G I L))) : Wx z 0 0 28 [(0, .ref ((zB z).size + 64)), (1, .int v1), (2, .int v2), (3, .int v3), (4, .int v4)] [] G I L := by
  have hz1 := hz.1
  refine am_iload hz1 dX12_areAlike_28 4 rfl ?_
  refine am_aload_n hz1 dX12_areAlike_30 0 rfl rfl ?_
  refine am_cVf hz cv_X12_78 [] [.int v4] (c_X12_many hG  ) (ln_64 hG) (lk_64 hG) rfl rfl rfl ⟨Nat.le_refl _, Nat.le_refl _⟩ (Nat.le_of_ble_eq_true rfl) dX12_areAlike_31 ?_
  refine am_icmp_ge (tgt := 66) hz1 dX12_areAlike_34 (by decide) (fun c1 => ?_) (fun c1 => ?_)
  · replace h := h.1 c1
    refine am_aload_n hz1 dX12_areAlike_66 0 rfl rfl ?_
    refine am_iconst (v := 0) hz1 dX12_areAlike_67 (by decide) ?_
    refine am_iload_n hz1 dX12_areAlike_68 2 rfl rfl ?_
    obtain ⟨dq2, postq2, hdq2, hMq2, h⟩ := h
    refine am_callV hz1 cv_X12_431 [.int 0, .int v2] [] hMq2 (ln_64 hG) (lk_64 hG) rfl rfl (hz.fr hdq2) (hz.lo hdq2) (by rw [hz.2.1]; exact ⟨Nat.le_refl _, Nat.le_refl _⟩) (Nat.le_of_ble_eq_true rfl) dX12_areAlike_69 (fun roq2 Gq2 Iq2 Lq2 hpq2 => ?_)
    obtain ⟨rq2, rfl, hGq2, h⟩ := h roq2 Gq2 Iq2 Lq2 hpq2
    obtain ⟨g3, h⟩ := h
    exact am_zreturn hz g3 dX12_areAlike_72 h
  · replace h := h.2 c1
    refine am_iload_n hz1 dX12_areAlike_37 1 rfl rfl ?_
    refine am_iload hz1 dX12_areAlike_38 4 rfl ?_
    refine am_cSf hz ct_X12_90 [.int v1, .int v4] [] (c_X12_has hG v1 v4 ) rfl rfl rfl ⟨Nat.le_refl _, Nat.le_refl _⟩ (Nat.le_of_ble_eq_true rfl) dX12_areAlike_40 ?_
    refine am_ifb_ne (tgt := 49) hz1 dX12_areAlike_43 (by decide) (fun c4 => ?_) (fun c4 => ?_)
    · replace h := h.1 c4
      refine am_aload_n hz1 dX12_areAlike_49 0 rfl rfl ?_
      refine am_getR hz1 fl_X12_66 (ln_64 hG) (lk_64 hG) (lr_64_28 hG) rfl dX12_areAlike_50 ?_
      refine am_iload_n hz1 dX12_areAlike_53 3 rfl rfl ?_
      refine am_iload hz1 dX12_areAlike_54 4 rfl ?_
      obtain ⟨g5, h⟩ := h
      refine am_iast hz1 (ln_82 hG) (lk_82 hG) (by rw [(ll_82 hG)]; exact g5) dX12_areAlike_56 ?_
      refine am_iinc (v := v3 + 1) (lv' := [(3, .int (v3 + 1)), (0, .ref ((zB z).size + 64)), (1, .int v1), (2, .int v2), (4, .int v4)]) hz1 dX12_areAlike_57 3 rfl rfl rfl rfl ?_
      refine am_iinc (v := v4 + 1) (lv' := [(4, .int (v4 + 1)), (3, .int (v3 + 1)), (0, .ref ((zB z).size + 64)), (1, .int v1), (2, .int v2)]) hz1 dX12_areAlike_60 4 rfl rfl rfl rfl ?_
      refine am_goto (tgt := 28) hz1 dX12_areAlike_63 (by decide) ?_
      exact am_sub (lv' := [(0, .ref ((zB z).size + 64)), (1, .int v1), (2, .int v2), (3, .int (v3 + 1)), (4, .int (v4 + 1))]) [2, 3, 4, 1, 0] rfl h
    · replace h := h.2 c4
      refine am_goto (tgt := 60) hz1 dX12_areAlike_46 (by decide) ?_
      refine am_iinc (v := v4 + 1) (lv' := [(4, .int (v4 + 1)), (0, .ref ((zB z).size + 64)), (1, .int v1), (2, .int v2), (3, .int v3)]) hz1 dX12_areAlike_60 4 rfl rfl rfl rfl ?_
      refine am_goto (tgt := 28) hz1 dX12_areAlike_63 (by decide) ?_
      exact am_sub (lv' := [(0, .ref ((zB z).size + 64)), (1, .int v1), (2, .int v2), (3, .int v3), (4, .int (v4 + 1))]) [1, 2, 3, 4, 0] rfl h
set_option maxRecDepth 100000 in
set_option maxHeartbeats 4000000 in
theorem c_X12_areAlike {l : Launch} {D : va_G} {B : Heap} {G : amG} {I : amI} {L : amL}  (hG : Lay G)  (v1 : Int32) (v2 : Int32) {n : Nat} {A : Nat → Int32} (hM : MO L n A) (hs : ∀ i, i < 32 → bt v1 i = true → i < n) (ht : ∀ i, i < 32 → bt v2 i = true → i < n) : Mx l D B yX12_areAlike cX12_areAlike 5 (some .boolean) 41 0 0 [.ref (B.size + 64), .int v1, .int v2] G I L (fun r G1 I1 L1 => r = some (.int (bI (alB n A v1 v2))) ∧ G1 = G ∧ L1 = L ∧ frA I I1) := by
  refine Mx.of (by decide) rfl rfl (fun z e1 e2 e3 hz => ?_)
  subst e1; subst e2; subst e3
  refine b_X12_areAlike_0 hz hG ?_
  have h16 := hM.2.1
  have s1 : s16 v1 := fun i h1 h2 => by
    rw [Bool.eq_false_iff]; exact fun q => absurd (hs i h2 q) (by omega)
  have s2 : s16 v2 := fun i h1 h2 => by
    rw [Bool.eq_false_iff]; exact fun q => absurd (ht i h2 q) (by omega)
  have c1 : ct (bt v1) 16 = ct (bt v1) n := ct_16 h16 hs
  have c2 : ct (bt v2) 16 = ct (bt v2) n := ct_16 h16 ht
  have l1 := ct_le (bt v1) n
  have l2 := ct_le (bt v2) n
  refine ⟨s1, s2, fun h => ?_, fun h => ⟨?_, rfl, rfl, frA_r⟩⟩
  · rw [m_size, m_size, c1, c2, nI_eq (by omega) (by omega)] at h
    generalize hI0 : setI (setI I 64 (upd (I 64) 30 v1)) 64 (upd ((setI I 64 (upd (I 64) 30 v1)) 64) 31 v2) = I0
    have f30 : I0 64 30 = v1 := by rw [← hI0, setI_s, upd_n (by decide), setI_s, upd_s]
    have f31 : I0 64 31 = v2 := by rw [← hI0, setI_s, upd_s]
    have fA : frA I I0 := by
      rw [← hI0]
      exact ⟨fun q a b c => by rw [setI_n a, setI_n a], fun k a b => by rw [setI_s, upd_n b, setI_s, upd_n a]⟩
    have loop : ∀ f : Nat → Int32, (∀ x, x < 0 → bt v1 x = true → f (ct (bt v1) x) = nI x) → Wx z 0 0 28 [(0, .ref ((zB z).size + 64)), (1, .int v1), (2, .int v2), (3, .int (nI (ct (bt v1) 0))), (4, .int (nI 0))] [] G (setI I0 82 f) L := by
      refine for_up (P := fun i => ∀ f : Nat → Int32, (∀ x, x < i → bt v1 x = true → f (ct (bt v1) x) = nI x) → Wx z 0 0 28 [(0, .ref ((zB z).size + 64)), (1, .int v1), (2, .int v2), (3, .int (nI (ct (bt v1) i))), (4, .int (nI i))] [] G (setI I0 82 f) L) (n := n) ?_ ?_ (Nat.zero_le _)
      · intro f hf
        have hmn : ∀ i, i < ct (bt v1) n → (f i).toNatClampNeg < n ∧ bt v1 (f i).toNatClampNeg = true ∧ ct (bt v1) (f i).toNatClampNeg = i ∧ f i = nI (f i).toNatClampNeg := by
          intro i hi
          obtain ⟨x, hx, hb, hc⟩ := ct_sur hi
          have := hf x hx hb
          rw [hc] at this
          rw [this, cl_nI (by omega)]
          exact ⟨hx, hb, hc, rfl⟩
        refine b_X12_areAlike_28 hz hG ⟨fun _ => ⟨40, _, rfl, c_X12_pairsOn (c := ct (bt v1) n) (mn := fun i => (f i).toNatClampNeg) hG hM hs ht (fun i hi => ⟨(hmn i hi).1, (hmn i hi).2.1, (hmn i hi).2.2.1⟩) (fun x hx hb => ⟨Nat.lt_of_succ_le (ct_lt hx hb), by show (f (ct (bt v1) x)).toNatClampNeg = x; rw [hf x hx hb, cl_nI (by omega)]⟩) (by omega) (ct (bt v1) n) 0 40 (setI I0 82 f) (fun _ => 0) v2 (by omega) (by omega) (by rw [setI_n (by decide), f30]) (by rw [setI_n (by decide), f31]) (fun i hi => by rw [setI_s]; exact (hmn i hi).2.2.2) (fun i hi => absurd hi (Nat.not_lt_zero _)) (fun i j hi => absurd hi (Nat.not_lt_zero _)) (fun i j hi => absurd hi (Nat.not_lt_zero _)) (fun y hy => ⟨fun q => ⟨q, fun i hi => absurd hi (Nat.not_lt_zero _)⟩, fun q => q.1⟩) (by omega), fun ro G2 I2 L2 ⟨r1, r2, r3, r4, b, r5, r6⟩ => ⟨_, r5, by rw [r1]; exact hG, by cases b <;> simp [bI], ?_, r1, r2, ?_⟩⟩, fun h => absurd (mm_le hM) h⟩
        · have : b = alB n A v1 v2 := by
            rw [Bool.eq_iff_iff, r6, alB_t]
            exact ⟨fun ⟨f, g, h, _⟩ => ⟨f, g, h⟩, fun ⟨f, g, h⟩ => ⟨f, g, h, fun i hi => absurd hi (Nat.not_lt_zero _)⟩⟩
          rw [this]
        · exact frA_t fA ⟨fun q a b c => by rw [r3 q c, setI_n b], fun k a b => by rw [r3 64 (by decide), setI_n (by decide)]⟩
      · intro i hi ih f hf
        refine b_X12_areAlike_28 hz hG ⟨fun h => absurd h (mm_ge hM hi), fun _ => ⟨fun g => ⟨in_nI (by have := ct_le (bt v1) i; omega) (by decide), ?_⟩, fun g => ?_⟩⟩
        · rw [has_b (by omega)] at g
          have := ih (upd f (ct (bt v1) i) (nI i)) (fun x hx hb => by
            by_cases e : x = i
            · subst e; rw [upd_s]
            · have : ct (bt v1) x < ct (bt v1) i := Nat.lt_of_succ_le (ct_lt (by omega) hb)
              rw [upd_n (by omega)]
              exact hf x (by omega) hb)
          rw [ct, if_pos g] at this
          rw [setI_ss, setI_s, cl_nI (by have := ct_le (bt v1) i; omega), nI_1, nI_1]
          exact this
        · rw [has_b (by omega)] at g
          have := ih f (fun x hx hb => hf x (by
            have : x ≠ i := fun e => by rw [e, g] at hb; cases hb
            omega) hb)
          rw [ct, if_neg (by rw [g]; decide), Nat.add_zero] at this
          rw [nI_1]
          exact this
    have := loop (I0 82) (fun x hx => absurd hx (Nat.not_lt_zero _))
    rw [setI_id] at this
    exact this
  · rw [m_size, m_size, c1, c2, nI_eq (by omega) (by omega)] at h
    have : alB n A v1 v2 = false := by
      rw [Bool.eq_false_iff, Ne, alB_t]
      rintro ⟨f, g, q⟩
      exact h (iso_size q)
    rw [this]; rfl
/-- the types, as they stand in the reference's rows -/
def TyM (I : amI) (n : Nat) (A : Nat → Int32) (σ : TyS) (a b : Nat) : Prop := I 64 25 = nI σ.tm ∧ (∀ x y, x < n → y < n → le A x y = true → (x < a ∨ x = a ∧ y < b) → I 80 (16 * x + y) = nI (σ.ty (16 * x + y))) ∧ ∀ t, t < σ.tm → I 81 t = nI (σ.fs t)
theorem TyM_f {I I1 : amI} {n a b : Nat} {A : Nat → Int32} {σ : TyS} (h : TyM I n A σ a b) (hf : frA I I1) : TyM I1 n A σ a b := by
  unfold TyM at h ⊢
  rw [hf.2 25 (by decide) (by decide), hf.1 80 (by decide) (by decide) (by decide), hf.1 81 (by decide) (by decide) (by decide)]
  exact h
def frT (I I1 : amI) : Prop := (∀ q, q ≠ 64 → q ≠ 80 → q ≠ 81 → q ≠ 82 → q ≠ 83 → I1 q = I q) ∧ ∀ k, k ≠ 24 → k ≠ 25 → k ≠ 30 → k ≠ 31 → I1 64 k = I 64 k
theorem frT_r {I : amI} : frT I I := ⟨fun _ _ _ _ _ _ => rfl, fun _ _ _ _ _ => rfl⟩
theorem frT_t {I I1 I2 : amI} (h : frT I I1) (h2 : frT I1 I2) : frT I I2 := ⟨fun q a b c d e => by rw [h2.1 q a b c d e, h.1 q a b c d e], fun k a b c d => by rw [h2.2 k a b c d, h.2 k a b c d]⟩
theorem frA_T {I I1 : amI} (h : frA I I1) : frT I I1 := ⟨fun q a _ _ b c => h.1 q a b c, fun k _ _ a b => h.2 k a b⟩
/-- the types are known -/
def TyK (I : amI) (n : Nat) (A : Nat → Int32) : Prop := I 64 24 = 1 ∧ TyM I n A (tyO n A) n 0
set_option maxRecDepth 100000 in
set_option maxHeartbeats 4000000 in
theorem b_X12_laysTypes_0 {z : amZ} {post : amP} {G : amG} {I : amI} {L : amL} (hz : Go z cX12_laysTypes RX12 4 none 42 0 0 post) (hG : Lay G)  (h : (((I 64 24) = 0) → Wx z 0 0 20 [(0, .ref ((zB z).size + 64)), (1, .int 0)] [] G (setI (setI I 64 (upd (I 64) 24 (1 : Int32))) 64 (upd ((setI I 64 (upd (I 64) 24 (1 : Int32))) 64) 25 (0 : Int32))) L) ∧ ((¬ (I 64 24) = 0) → post none G I L)) : Wx z 0 0 0 [(0, .ref ((zB z).size + 64))] [] G I L := by
  have hz1 := hz.1
  refine am_aload_n hz1 dX12_laysTypes_0 0 rfl rfl ?_
  refine am_getI hz1 fl_X12_114 (ln_64 hG) (lk_64 hG) rfl dX12_laysTypes_1 ?_
  refine am_if_eq (tgt := 8) hz1 dX12_laysTypes_4 (by decide) (fun c1 => ?_) (fun c1 => ?_)
  · replace h := h.1 c1
    refine am_aload_n hz1 dX12_laysTypes_8 0 rfl rfl ?_
    refine am_iconst (v := 1) hz1 dX12_laysTypes_9 (by decide) ?_
    refine am_putI hz1 fl_X12_114 (ln_64 hG) (lk_64 hG) rfl rfl (fun _ => rfl) dX12_laysTypes_10 ?_
    refine am_aload_n hz1 dX12_laysTypes_13 0 rfl rfl ?_
    refine am_iconst (v := 0) hz1 dX12_laysTypes_14 (by decide) ?_
    refine am_putI hz1 fl_X12_434 (ln_64 hG) (lk_64 hG) rfl rfl (fun _ => rfl) dX12_laysTypes_15 ?_
    refine am_iconst (v := 0) hz1 dX12_laysTypes_18 (by decide) ?_
    refine am_istore_n (lv' := [(1, .int 0), (0, .ref ((zB z).size + 64))]) hz1 dX12_laysTypes_19 rfl rfl rfl ?_
    exact am_sub (lv' := [(0, .ref ((zB z).size + 64)), (1, .int 0)]) [1, 0] rfl h
  · replace h := h.2 c1
    exact am_return hz dX12_laysTypes_7 h
set_option maxRecDepth 100000 in
set_option maxHeartbeats 4000000 in
theorem b_X12_laysTypes_20 {z : amZ} {post : amP} {G : amG} {I : amI} {L : amL} (hz : Go z cX12_laysTypes RX12 4 none 42 0 0 post) (hG : Lay G) {v1 : Int32} (h : (((m_many L) ≤ v1) → post none G I L) ∧ ((¬ (m_many L) ≤ v1) → Wx z 0 0 30 [(0, .ref ((zB z).size + 64)), (1, .int v1), (2, .int 0)] [] G I L)) : Wx z 0 0 20 [(0, .ref ((zB z).size + 64)), (1, .int v1)] [] G I L := by
  have hz1 := hz.1
  refine am_iload_n hz1 dX12_laysTypes_20 1 rfl rfl ?_
  refine am_aload_n hz1 dX12_laysTypes_21 0 rfl rfl ?_
  refine am_cVf hz cv_X12_78 [] [.int v1] (c_X12_many hG  ) (ln_64 hG) (lk_64 hG) rfl rfl rfl ⟨Nat.le_refl _, Nat.le_refl _⟩ (Nat.le_of_ble_eq_true rfl) dX12_laysTypes_22 ?_
  refine am_icmp_ge (tgt := 158) hz1 dX12_laysTypes_25 (by decide) (fun c1 => ?_) (fun c1 => ?_)
  · replace h := h.1 c1
    exact am_return hz dX12_laysTypes_158 h
  · replace h := h.2 c1
    refine am_iconst (v := 0) hz1 dX12_laysTypes_28 (by decide) ?_
    refine am_istore_n (lv' := [(2, .int 0), (0, .ref ((zB z).size + 64)), (1, .int v1)]) hz1 dX12_laysTypes_29 rfl rfl rfl ?_
    exact am_sub (lv' := [(0, .ref ((zB z).size + 64)), (1, .int v1), (2, .int 0)]) [1, 2, 0] rfl h
set_option maxRecDepth 100000 in
set_option maxHeartbeats 4000000 in
theorem b_X12_laysTypes_30 {z : amZ} {post : amP} {G : amG} {I : amI} {L : amL} (hz : Go z cX12_laysTypes RX12 4 none 42 0 0 post) (hG : Lay G) {v1 : Int32} {v2 : Int32} (h : (((m_many L) ≤ v2) → Wx z 0 0 20 [(0, .ref ((zB z).size + 64)), (1, .int (v1 + 1))] [] G I L) ∧ ((¬ (m_many L) ≤ v2) → (vp_in v1 16) ∧ ((m_am L v1 v2 = true) → Wx z 0 0 52 [(0, .ref ((zB z).size + 64)), (1, .int v1), (2, .int v2), (3, .int 0)] [] G I L) ∧ ((m_am L v1 v2 = false) → Wx z 0 0 30 [(0, .ref ((zB z).size + 64)), (1, .int v1), (2, .int (v2 + 1))] [] G I L))) : Wx z 0 0 30 [(0, .ref ((zB z).size + 64)), (1, .int v1), (2, .int v2)] [] G I L := by
  have hz1 := hz.1
  refine am_iload_n hz1 dX12_laysTypes_30 2 rfl rfl ?_
  refine am_aload_n hz1 dX12_laysTypes_31 0 rfl rfl ?_
  refine am_cVf hz cv_X12_78 [] [.int v2] (c_X12_many hG  ) (ln_64 hG) (lk_64 hG) rfl rfl rfl ⟨Nat.le_refl _, Nat.le_refl _⟩ (Nat.le_of_ble_eq_true rfl) dX12_laysTypes_32 ?_
  refine am_icmp_ge (tgt := 152) hz1 dX12_laysTypes_35 (by decide) (fun c1 => ?_) (fun c1 => ?_)
  · replace h := h.1 c1
    refine am_iinc (v := v1 + 1) (lv' := [(1, .int (v1 + 1)), (0, .ref ((zB z).size + 64)), (2, .int v2)]) hz1 dX12_laysTypes_152 1 rfl rfl rfl rfl ?_
    refine am_goto (tgt := 20) hz1 dX12_laysTypes_155 (by decide) ?_
    exact am_sub (lv' := [(0, .ref ((zB z).size + 64)), (1, .int (v1 + 1))]) [1, 0] rfl h
  · replace h := h.2 c1
    refine am_aload_n hz1 dX12_laysTypes_38 0 rfl rfl ?_
    refine am_iload_n hz1 dX12_laysTypes_39 1 rfl rfl ?_
    refine am_iload_n hz1 dX12_laysTypes_40 2 rfl rfl ?_
    obtain ⟨g2, h⟩ := h
    refine am_cVf hz cv_X12_94 [.int v1, .int v2] [] (c_X12_isAtMost hG v1 v2 g2) (ln_64 hG) (lk_64 hG) rfl rfl rfl ⟨Nat.le_refl _, Nat.le_refl _⟩ (Nat.le_of_ble_eq_true rfl) dX12_laysTypes_41 ?_
    refine am_ifb_ne (tgt := 50) hz1 dX12_laysTypes_44 (by decide) (fun c3 => ?_) (fun c3 => ?_)
    · replace h := h.1 c3
      refine am_iconst (v := 0) hz1 dX12_laysTypes_50 (by decide) ?_
      refine am_istore_n (lv' := [(3, .int 0), (0, .ref ((zB z).size + 64)), (1, .int v1), (2, .int v2)]) hz1 dX12_laysTypes_51 rfl rfl rfl ?_
      exact am_sub (lv' := [(0, .ref ((zB z).size + 64)), (1, .int v1), (2, .int v2), (3, .int 0)]) [1, 2, 3, 0] rfl h
    · replace h := h.2 c3
      refine am_goto (tgt := 146) hz1 dX12_laysTypes_47 (by decide) ?_
      refine am_iinc (v := v2 + 1) (lv' := [(2, .int (v2 + 1)), (0, .ref ((zB z).size + 64)), (1, .int v1)]) hz1 dX12_laysTypes_146 2 rfl rfl rfl rfl ?_
      refine am_goto (tgt := 30) hz1 dX12_laysTypes_149 (by decide) ?_
      exact am_sub (lv' := [(0, .ref ((zB z).size + 64)), (1, .int v1), (2, .int (v2 + 1))]) [1, 2, 0] rfl h
set_option maxRecDepth 100000 in
set_option maxHeartbeats 4000000 in
theorem b_X12_laysTypes_52 {z : amZ} {post : amP} {G : amG} {I : amI} {L : amL} (hz : Go z cX12_laysTypes RX12 4 none 42 0 0 post) (hG : Lay G) {v1 : Int32} {v2 : Int32} {v3 : Int32} (h : (((I 64 25) ≤ v3) → Wx z 0 0 101 [(0, .ref ((zB z).size + 64)), (1, .int v1), (2, .int v2), (3, .int v3)] [] G I L) ∧ ((¬ (I 64 25) ≤ v3) → (mOk L) ∧ (vp_in v1 16) ∧ vp_in v3 256 ∧ vp_in v3 256 ∧ (mOk L) ∧ (vp_in ((I 81 v3.toNatClampNeg) / (16 : Int32)) 16) ∧ ∃ (dq10 : Nat) (postq10 : amP), Nat.ble (dq10 + 1) 42 = true ∧ Mx (zL z) (zD z) (zB z) yX12_areAlike cX12_areAlike 5 (some .boolean) dq10 0 0 [.ref ((zB z).size + 64), .int (m_iv L v1 v2), .int (m_iv L ((I 81 v3.toNatClampNeg) / (16 : Int32)) ((I 81 v3.toNatClampNeg) - (I 81 v3.toNatClampNeg) / (16 : Int32) * (16 : Int32)))] G I L postq10 ∧ ∀ (roq10 : Option Value) (Gq10 : amG) (Iq10 : amI) (Lq10 : amL), postq10 roq10 Gq10 Iq10 Lq10 → ∃ (rq10 : Int32), roq10 = some (.int rq10) ∧ Lay Gq10 ∧ ((¬ rq10 = 0) → Wx z 0 0 101 [(0, .ref ((zB z).size + 64)), (1, .int v1), (2, .int v2), (3, .int v3)] [] Gq10 Iq10 Lq10) ∧ ((rq10 = 0) → Wx z 0 0 52 [(0, .ref ((zB z).size + 64)), (1, .int v1), (2, .int v2), (3, .int (v3 + 1))] [] Gq10 Iq10 Lq10))) : Wx z 0 0 52 [(0, .ref ((zB z).size + 64)), (1, .int v1), (2, .int v2), (3, .int v3)] [] G I L := by
  have hz1 := hz.1
  refine am_iload_n hz1 dX12_laysTypes_52 3 rfl rfl ?_
  refine am_aload_n hz1 dX12_laysTypes_53 0 rfl rfl ?_
  refine am_getI hz1 fl_X12_434 (ln_64 hG) (lk_64 hG) rfl dX12_laysTypes_54 ?_
  refine am_icmp_ge (tgt := 101) hz1 dX12_laysTypes_57 (by decide) (fun c1 => ?_) (fun c1 => ?_)
  · replace h := h.1 c1
    exact h
  · replace h := h.2 c1
    refine am_aload_n hz1 dX12_laysTypes_60 0 rfl rfl ?_
    refine am_aload_n hz1 dX12_laysTypes_61 0 rfl rfl ?_
    refine am_iload_n hz1 dX12_laysTypes_62 1 rfl rfl ?_
    refine am_iload_n hz1 dX12_laysTypes_63 2 rfl rfl ?_
    obtain ⟨g2, h⟩ := h
    obtain ⟨g3, h⟩ := h
    refine am_cVf hz cv_X12_107 [.int v1, .int v2] [.ref ((zB z).size + 64)] (c_X12_interval hG v1 v2 g2 g3) (ln_64 hG) (lk_64 hG) rfl rfl rfl ⟨Nat.le_refl _, Nat.le_refl _⟩ (Nat.le_of_ble_eq_true rfl) dX12_laysTypes_64 ?_
    refine am_aload_n hz1 dX12_laysTypes_67 0 rfl rfl ?_
    refine am_aload_n hz1 dX12_laysTypes_68 0 rfl rfl ?_
    refine am_getR hz1 fl_X12_63 (ln_64 hG) (lk_64 hG) (lr_64_27 hG) rfl dX12_laysTypes_69 ?_
    refine am_iload_n hz1 dX12_laysTypes_72 3 rfl rfl ?_
    obtain ⟨g4, h⟩ := h
    refine am_iald hz1 (ln_81 hG) (lk_81 hG) (by rw [(ll_81 hG)]; exact g4) dX12_laysTypes_73 ?_
    refine am_bipush (v := 16) hz1 dX12_laysTypes_74 (by decide) ?_
    refine am_idiv hz1 dX12_laysTypes_76 (by decide) ?_
    refine am_aload_n hz1 dX12_laysTypes_77 0 rfl rfl ?_
    refine am_getR hz1 fl_X12_63 (ln_64 hG) (lk_64 hG) (lr_64_27 hG) rfl dX12_laysTypes_78 ?_
    refine am_iload_n hz1 dX12_laysTypes_81 3 rfl rfl ?_
    obtain ⟨g6, h⟩ := h
    refine am_iald hz1 (ln_81 hG) (lk_81 hG) (by rw [(ll_81 hG)]; exact g6) dX12_laysTypes_82 ?_
    refine am_bipush (v := 16) hz1 dX12_laysTypes_83 (by decide) ?_
    refine am_irem hz1 dX12_laysTypes_85 (by decide) ?_
    obtain ⟨g8, h⟩ := h
    obtain ⟨g9, h⟩ := h
    refine am_cVf hz cv_X12_107 [.int ((I 81 v3.toNatClampNeg) / (16 : Int32)), .int ((I 81 v3.toNatClampNeg) - (I 81 v3.toNatClampNeg) / (16 : Int32) * (16 : Int32))] [.int (m_iv L v1 v2), .ref ((zB z).size + 64)] (c_X12_interval hG ((I 81 v3.toNatClampNeg) / (16 : Int32)) ((I 81 v3.toNatClampNeg) - (I 81 v3.toNatClampNeg) / (16 : Int32) * (16 : Int32)) g8 g9) (ln_64 hG) (lk_64 hG) rfl rfl rfl ⟨Nat.le_refl _, Nat.le_refl _⟩ (Nat.le_of_ble_eq_true rfl) dX12_laysTypes_86 ?_
    obtain ⟨dq10, postq10, hdq10, hMq10, h⟩ := h
    refine am_callV hz1 cv_X12_437 [.int (m_iv L v1 v2), .int (m_iv L ((I 81 v3.toNatClampNeg) / (16 : Int32)) ((I 81 v3.toNatClampNeg) - (I 81 v3.toNatClampNeg) / (16 : Int32) * (16 : Int32)))] [] hMq10 (ln_64 hG) (lk_64 hG) rfl rfl (hz.fr hdq10) (hz.lo hdq10) (by rw [hz.2.1]; exact ⟨Nat.le_refl _, Nat.le_refl _⟩) (Nat.le_of_ble_eq_true rfl) dX12_laysTypes_89 (fun roq10 Gq10 Iq10 Lq10 hpq10 => ?_)
    obtain ⟨rq10, rfl, hGq10, h⟩ := h roq10 Gq10 Iq10 Lq10 hpq10
    refine am_if_ne (tgt := 101) hz1 dX12_laysTypes_92 (by decide) (fun c11 => ?_) (fun c11 => ?_)
    · replace h := h.1 c11
      exact h
    · replace h := h.2 c11
      refine am_iinc (v := v3 + 1) (lv' := [(3, .int (v3 + 1)), (0, .ref ((zB z).size + 64)), (1, .int v1), (2, .int v2)]) hz1 dX12_laysTypes_95 3 rfl rfl rfl rfl ?_
      refine am_goto (tgt := 52) hz1 dX12_laysTypes_98 (by decide) ?_
      exact am_sub (lv' := [(0, .ref ((zB z).size + 64)), (1, .int v1), (2, .int v2), (3, .int (v3 + 1))]) [1, 2, 3, 0] rfl h
set_option maxRecDepth 100000 in
set_option maxHeartbeats 4000000 in
theorem b_X12_laysTypes_101 {z : amZ} {post : amP} {G : amG} {I : amI} {L : amL} (hz : Go z cX12_laysTypes RX12 4 none 42 0 0 post) (hG : Lay G) {v1 : Int32} {v2 : Int32} {v3 : Int32} (h : vp_in (((16 : Int32) * v1) + v2) 256 ∧ ((((setI I 80 (upd (I 80) (((16 : Int32) * v1) + v2).toNatClampNeg v3)) 64 25) ≤ v3) → vp_in v3 256 ∧ Wx z 0 0 30 [(0, .ref ((zB z).size + 64)), (1, .int v1), (2, .int (v2 + 1))] [] G (setI (setI (setI I 80 (upd (I 80) (((16 : Int32) * v1) + v2).toNatClampNeg v3)) 81 (upd ((setI I 80 (upd (I 80) (((16 : Int32) * v1) + v2).toNatClampNeg v3)) 81) v3.toNatClampNeg (((16 : Int32) * v1) + v2))) 64 (upd ((setI (setI I 80 (upd (I 80) (((16 : Int32) * v1) + v2).toNatClampNeg v3)) 81 (upd ((setI I 80 (upd (I 80) (((16 : Int32) * v1) + v2).toNatClampNeg v3)) 81) v3.toNatClampNeg (((16 : Int32) * v1) + v2))) 64) 25 (((setI (setI I 80 (upd (I 80) (((16 : Int32) * v1) + v2).toNatClampNeg v3)) 81 (upd ((setI I 80 (upd (I 80) (((16 : Int32) * v1) + v2).toNatClampNeg v3)) 81) v3.toNatClampNeg (((16 : Int32) * v1) + v2))) 64 25) + (1 : Int32)))) L) ∧ ((¬ ((setI I 80 (upd (I 80) (((16 : Int32) * v1) + v2).toNatClampNeg v3)) 64 25) ≤ v3) → Wx z 0 0 30 [(0, .ref ((zB z).size + 64)), (1, .int v1), (2, .int (v2 + 1))] [] G (setI I 80 (upd (I 80) (((16 : Int32) * v1) + v2).toNatClampNeg v3)) L)) : Wx z 0 0 101 [(0, .ref ((zB z).size + 64)), (1, .int v1), (2, .int v2), (3, .int v3)] [] G I L := by
  have hz1 := hz.1
  refine am_aload_n hz1 dX12_laysTypes_101 0 rfl rfl ?_
  refine am_getR hz1 fl_X12_60 (ln_64 hG) (lk_64 hG) (lr_64_26 hG) rfl dX12_laysTypes_102 ?_
  refine am_bipush (v := 16) hz1 dX12_laysTypes_105 (by decide) ?_
  refine am_iload_n hz1 dX12_laysTypes_107 1 rfl rfl ?_
  refine am_imul hz1 dX12_laysTypes_108 ?_
  refine am_iload_n hz1 dX12_laysTypes_109 2 rfl rfl ?_
  refine am_iadd hz1 dX12_laysTypes_110 ?_
  refine am_iload_n hz1 dX12_laysTypes_111 3 rfl rfl ?_
  obtain ⟨g1, h⟩ := h
  refine am_iast hz1 (ln_80 hG) (lk_80 hG) (by rw [(ll_80 hG)]; exact g1) dX12_laysTypes_112 ?_
  refine am_iload_n hz1 dX12_laysTypes_113 3 rfl rfl ?_
  refine am_aload_n hz1 dX12_laysTypes_114 0 rfl rfl ?_
  refine am_getI hz1 fl_X12_434 (ln_64 hG) (lk_64 hG) rfl dX12_laysTypes_115 ?_
  refine am_icmp_ge (tgt := 124) hz1 dX12_laysTypes_118 (by decide) (fun c2 => ?_) (fun c2 => ?_)
  · replace h := h.1 c2
    refine am_aload_n hz1 dX12_laysTypes_124 0 rfl rfl ?_
    refine am_getR hz1 fl_X12_63 (ln_64 hG) (lk_64 hG) (lr_64_27 hG) rfl dX12_laysTypes_125 ?_
    refine am_iload_n hz1 dX12_laysTypes_128 3 rfl rfl ?_
    refine am_bipush (v := 16) hz1 dX12_laysTypes_129 (by decide) ?_
    refine am_iload_n hz1 dX12_laysTypes_131 1 rfl rfl ?_
    refine am_imul hz1 dX12_laysTypes_132 ?_
    refine am_iload_n hz1 dX12_laysTypes_133 2 rfl rfl ?_
    refine am_iadd hz1 dX12_laysTypes_134 ?_
    obtain ⟨g3, h⟩ := h
    refine am_iast hz1 (ln_81 hG) (lk_81 hG) (by rw [(ll_81 hG)]; exact g3) dX12_laysTypes_135 ?_
    refine am_aload_n hz1 dX12_laysTypes_136 0 rfl rfl ?_
    refine am_dup hz1 dX12_laysTypes_137 rfl ?_
    refine am_getI hz1 fl_X12_434 (ln_64 hG) (lk_64 hG) rfl dX12_laysTypes_138 ?_
    refine am_iconst (v := 1) hz1 dX12_laysTypes_141 (by decide) ?_
    refine am_iadd hz1 dX12_laysTypes_142 ?_
    refine am_putI hz1 fl_X12_434 (ln_64 hG) (lk_64 hG) rfl rfl (fun _ => rfl) dX12_laysTypes_143 ?_
    refine am_iinc (v := v2 + 1) (lv' := [(2, .int (v2 + 1)), (0, .ref ((zB z).size + 64)), (1, .int v1), (3, .int v3)]) hz1 dX12_laysTypes_146 2 rfl rfl rfl rfl ?_
    refine am_goto (tgt := 30) hz1 dX12_laysTypes_149 (by decide) ?_
    exact am_sub (lv' := [(0, .ref ((zB z).size + 64)), (1, .int v1), (2, .int (v2 + 1))]) [1, 2, 0] rfl h
  · replace h := h.2 c2
    refine am_goto (tgt := 146) hz1 dX12_laysTypes_121 (by decide) ?_
    refine am_iinc (v := v2 + 1) (lv' := [(2, .int (v2 + 1)), (0, .ref ((zB z).size + 64)), (1, .int v1), (3, .int v3)]) hz1 dX12_laysTypes_146 2 rfl rfl rfl rfl ?_
    refine am_goto (tgt := 30) hz1 dX12_laysTypes_149 (by decide) ?_
    exact am_sub (lv' := [(0, .ref ((zB z).size + 64)), (1, .int v1), (2, .int (v2 + 1))]) [1, 2, 0] rfl h
set_option maxRecDepth 100000 in
set_option maxHeartbeats 4000000 in
theorem c_X12_laysTypes {l : Launch} {D : va_G} {B : Heap} {G : amG} {I : amI} {L : amL}  (hG : Lay G)   {n : Nat} {A : Nat → Int32} (hM : MO L n A) (hk : I 64 24 = 0 ∨ TyK I n A) : Mx l D B yX12_laysTypes cX12_laysTypes 4 none 42 0 0 [.ref (B.size + 64)] G I L (fun r G1 I1 L1 => r = none ∧ G1 = G ∧ L1 = L ∧ TyK I1 n A ∧ frT I I1) := by
  refine Mx.of (by decide) rfl rfl (fun z e1 e2 e3 hz => ?_)
  subst e1; subst e2; subst e3
  refine b_X12_laysTypes_0 hz hG ?_
  have h16 := hM.2.1
  have hP := hM.2.2.1
  refine ⟨fun h => ?_, fun h => ⟨rfl, rfl, rfl, hk.resolve_left h, frT_r⟩⟩
  generalize hI0 : setI (setI I 64 (upd (I 64) 24 1)) 64 (upd ((setI I 64 (upd (I 64) 24 1)) 64) 25 0) = I0
  have f24 : I0 64 24 = 1 := by rw [← hI0, setI_s, upd_n (by decide), setI_s, upd_s]
  have f25 : I0 64 25 = 0 := by rw [← hI0, setI_s, upd_s]
  have fT : frT I I0 := by
    rw [← hI0]
    exact ⟨fun q a _ _ _ _ => by rw [setI_n a, setI_n a], fun k a b _ _ => by rw [setI_s, upd_n b, setI_s, upd_n a]⟩
  have outer : ∀ I1 : amI, frT I I1 → I1 64 24 = 1 → TyM I1 n A (tyAll n A 0) 0 0 → Wx z 0 0 20 [(0, .ref ((zB z).size + 64)), (1, .int (nI 0))] [] G I1 L := by
    refine for_up (P := fun a => ∀ I1 : amI, frT I I1 → I1 64 24 = 1 → TyM I1 n A (tyAll n A a) a 0 → Wx z 0 0 20 [(0, .ref ((zB z).size + 64)), (1, .int (nI a))] [] G I1 L) (n := n) ?_ ?_ (Nat.zero_le _)
    · intro I1 hf h24 hT
      exact b_X12_laysTypes_20 hz hG ⟨fun _ => ⟨rfl, rfl, rfl, ⟨h24, hT⟩, hf⟩, fun h => absurd (mm_le hM) h⟩
    · intro a ha ah I1 hf h24 hT
      refine b_X12_laysTypes_20 hz hG ⟨fun h => absurd h (mm_ge hM ha), fun _ => ?_⟩
      have cols : ∀ I1 : amI, frT I I1 → I1 64 24 = 1 → TyM I1 n A (tyRow n A (tyAll n A a) a 0) a 0 → Wx z 0 0 30 [(0, .ref ((zB z).size + 64)), (1, .int (nI a)), (2, .int (nI 0))] [] G I1 L := by
        refine for_up (P := fun b => ∀ I1 : amI, frT I I1 → I1 64 24 = 1 → TyM I1 n A (tyRow n A (tyAll n A a) a b) a b → Wx z 0 0 30 [(0, .ref ((zB z).size + 64)), (1, .int (nI a)), (2, .int (nI b))] [] G I1 L) (n := n) ?_ ?_ (Nat.zero_le _)
        · intro I1 hf h24 hT
          refine b_X12_laysTypes_30 hz hG ⟨fun _ => ?_, fun h => absurd (mm_le hM) h⟩
          rw [nI_1]
          exact ah I1 hf h24 ⟨hT.1, fun x y hx hy hl hv => hT.2.1 x y hx hy hl (by omega), hT.2.2⟩
        · intro b hb bh I1 hf h24 hT
          have hsb := ty_136 (a := a) (b := b) hP h16 ha hb
          have hTI := tyRow_I (tyAll_I (n := n) (A := A) a (by omega)) ha b (by omega)
          generalize hσ : tyRow n A (tyAll n A a) a b = σ at hT hsb hTI
          have hrow : tyRow n A (tyAll n A a) a (b + 1) = tyStep n A σ a b := by rw [tyRow, hσ]
          refine b_X12_laysTypes_30 hz hG ⟨fun h => absurd h (mm_ge hM hb), fun _ => ⟨in16 h16 ha, fun h => ?_, fun h => ?_⟩⟩
          · rw [hM.am ha (by omega)] at h
            have hsb := hsb h
            -- look for the first one that is alike
            have fin : ∀ (I2 : amI) (t : Nat), frT I I2 → I2 64 24 = 1 → TyM I2 n A σ a b → t = tyT n A σ a b → Wx z 0 0 101 [(0, .ref ((zB z).size + 64)), (1, .int (nI a)), (2, .int (nI b)), (3, .int (nI t))] [] G I2 L := by
              intro I2 t hf2 h242 hT2 ht
              have htle : t ≤ σ.tm := by rw [ht]; exact tyT_le
              refine b_X12_laysTypes_101 hz hG ?_
              rw [c16, cl_nI (n := 16 * a + b) (by omega), cl_nI (n := t) (by omega), nI_1]
              have e25 : (setI I2 80 (upd (I2 80) (16 * a + b) (nI t))) 64 25 = nI σ.tm := by rw [setI_n (by decide)]; exact hT2.1
              rw [e25, nI_leI (by omega) (by omega)]
              refine ⟨in_nI (by omega) (by decide), fun hg => ⟨in_nI (by omega) (by decide), ?_⟩, fun hg => ?_⟩
              · -- a new type
                have htm : t = σ.tm := by omega
                generalize hI3 : setI (setI (setI I2 80 (upd (I2 80) (16 * a + b) (nI t))) 81 (upd ((setI I2 80 (upd (I2 80) (16 * a + b) (nI t))) 81) t (nI (16 * a + b)))) 64 (upd ((setI (setI I2 80 (upd (I2 80) (16 * a + b) (nI t))) 81 (upd ((setI I2 80 (upd (I2 80) (16 * a + b) (nI t))) 81) t (nI (16 * a + b)))) 64) 25 ((setI (setI I2 80 (upd (I2 80) (16 * a + b) (nI t))) 81 (upd ((setI I2 80 (upd (I2 80) (16 * a + b) (nI t))) 81) t (nI (16 * a + b)))) 64 25 + 1)) = I3
                have g64 : I3 64 = upd (I2 64) 25 (I2 64 25 + 1) := by rw [← hI3, setI_s, setI_n (by decide), setI_n (by decide)]
                have g80 : I3 80 = upd (I2 80) (16 * a + b) (nI t) := by rw [← hI3, setI_n (by decide), setI_n (by decide), setI_s]
                have g81 : I3 81 = upd (I2 81) t (nI (16 * a + b)) := by rw [← hI3, setI_n (by decide), setI_s, setI_n (by decide)]
                have gq : ∀ q, q ≠ 64 → q ≠ 80 → q ≠ 81 → I3 q = I2 q := fun q q1 q2 q3 => by rw [← hI3, setI_n q1, setI_n q3, setI_n q2]
                have hstep : tyStep n A σ a b = (σ.tm + 1, (fun k => if k = 16 * a + b then σ.tm else σ.ty k), fun k => if k = σ.tm then 16 * a + b else σ.fs k) := by
                  rw [tyStep, if_pos h, if_neg (by omega)]
                refine bh I3 (frT_t hf2 ⟨fun q q1 q2 q3 _ _ => gq q q1 q2 q3, fun k q1 q2 _ _ => by rw [g64, upd_n q2]⟩) (by rw [g64, upd_n (by decide), h242]) ?_
                rw [hrow, hstep]
                refine ⟨?_, fun x y hx hy hl hv => ?_, fun u hu => ?_⟩
                · rw [g64, upd_s, hT2.1, nI_1]
                · rw [g80]
                  show upd (I2 80) (16 * a + b) (nI t) (16 * x + y) = nI (if 16 * x + y = 16 * a + b then σ.tm else σ.ty (16 * x + y))
                  by_cases e : x = a ∧ y = b
                  · obtain ⟨rfl, rfl⟩ := e
                    rw [upd_s, if_pos rfl, htm]
                  · rw [upd_n (by omega), if_neg (by omega)]
                    exact hT2.2.1 x y hx hy hl (by omega)
                · rw [g81]
                  show upd (I2 81) t (nI (16 * a + b)) u = nI (if u = σ.tm then 16 * a + b else σ.fs u)
                  by_cases e : u = σ.tm
                  · rw [e, ← htm, upd_s, if_pos rfl]
                  · rw [upd_n (by omega), if_neg e]
                    exact hT2.2.2 u (by have : u < σ.tm + 1 := hu; omega)
              · have htm : t < σ.tm := by omega
                have hstep : tyStep n A σ a b = (σ.tm, (fun k => if k = 16 * a + b then tyT n A σ a b else σ.ty k), σ.fs) := by
                  rw [tyStep, if_pos h, if_pos (by omega)]
                refine bh _ (frT_t hf2 ⟨fun q q1 q2 q3 _ _ => by rw [setI_n q2], fun k _ _ _ _ => by rw [setI_n (by decide)]⟩) (by rw [setI_n (by decide), h242]) ?_
                rw [hrow, hstep]
                refine ⟨by rw [setI_n (by decide)]; exact hT2.1, fun x y hx hy hl hv => ?_, fun u hu => by rw [setI_n (by decide)]; exact hT2.2.2 u hu⟩
                rw [setI_s]
                show upd (I2 80) (16 * a + b) (nI t) (16 * x + y) = nI (if 16 * x + y = 16 * a + b then tyT n A σ a b else σ.ty (16 * x + y))
                by_cases e : x = a ∧ y = b
                · obtain ⟨rfl, rfl⟩ := e
                  rw [upd_s, if_pos rfl, ht]
                · rw [upd_n (by omega), if_neg (by omega)]
                  exact hT2.2.1 x y hx hy hl (by omega)
            refine for_up (P := fun t => ∀ I2 : amI, frT I I2 → I2 64 24 = 1 → TyM I2 n A σ a b → scan (fun t => alB n A (ivS n A a b) (ivS n A (σ.fs t / 16) (σ.fs t % 16))) id σ.tm (σ.tm - t) t = tyT n A σ a b → Wx z 0 0 52 [(0, .ref ((zB z).size + 64)), (1, .int (nI a)), (2, .int (nI b)), (3, .int (nI t))] [] G I2 L) (n := σ.tm) ?_ ?_ (Nat.zero_le _) I1 hf h24 hT (by rw [Nat.sub_zero, tyT])
            · intro I2 hf2 h242 hT2 hsc
              rw [scan_0] at hsc
              refine b_X12_laysTypes_52 hz hG ⟨fun _ => fin I2 _ hf2 h242 hT2 hsc, fun q => absurd ?_ q⟩
              rw [hT2.1]; exact nI_le (Nat.le_refl _) (by omega)
            · intro t ht ih I2 hf2 h242 hT2 hsc
              rw [scan_s ht] at hsc
              obtain ⟨a', b', ha', hb', hl', hfs⟩ := hTI.2 t ht
              have d1 : I2 81 (nI t).toNatClampNeg = nI (16 * a' + b') := by rw [cl_nI (by omega), hT2.2.2 t ht, hfs]
              have d2 : nI (16 * a' + b') / (16 : Int32) = nI a' := by
                rw [show (16 : Int32) = nI 16 from rfl, nI_div (by omega) (by decide) (by decide), show (16 * a' + b') / 16 = a' by omega]
              have d3 : nI (16 * a' + b') - nI (16 * a' + b') / (16 : Int32) * 16 = nI b' := by
                have := nI_rem (a := 16 * a' + b') (b := 16) (by omega) (by decide) (by decide)
                rw [show (16 * a' + b') % 16 = b' by omega] at this
                exact this
              have hfd : σ.fs t / 16 = a' ∧ σ.fs t % 16 = b' := by rw [hfs]; omega
              rw [hfd.1, hfd.2] at hsc
              refine b_X12_laysTypes_52 hz hG ⟨fun q => absurd q (by rw [hT2.1]; exact nI_ge ht (by omega)), fun _ => ?_⟩
              rw [d1, d3, d2, hM.iv ha hb, hM.iv ha' hb', nI_1]
              refine ⟨⟨n, A, hM⟩, in16 h16 ha, in_nI (by omega) (by decide), in_nI (by omega) (by decide), ⟨n, A, hM⟩, in16 h16 ha', 41, _, rfl, c_X12_areAlike hG _ _ hM (iv_lt (by omega) hb) (iv_lt (by omega) hb'), fun ro G2 I3 L2 ⟨r1, r2, r3, r4⟩ => ⟨_, r1, by rw [r2]; exact hG, fun q => ?_, fun q => ?_⟩⟩
              · have hal : alB n A (ivS n A a b) (ivS n A a' b') = true := by
                  cases e : alB n A (ivS n A a b) (ivS n A a' b')
                  · rw [e] at q; exact absurd rfl q
                  · rfl
                rw [if_pos hal] at hsc
                rw [r2, r3]
                exact fin I3 t (frT_t hf2 (frA_T r4)) (by rw [r4.2 24 (by decide) (by decide), h242]) (TyM_f hT2 r4) hsc
              · have hal : alB n A (ivS n A a b) (ivS n A a' b') = false := by
                  cases e : alB n A (ivS n A a b) (ivS n A a' b')
                  · rfl
                  · rw [e] at q; exact absurd q (by decide)
                rw [if_neg (by rw [hal]; decide)] at hsc
                rw [r2, r3]
                exact ih I3 (frT_t hf2 (frA_T r4)) (by rw [r4.2 24 (by decide) (by decide), h242]) (TyM_f hT2 r4) hsc
          · rw [hM.am ha (by omega)] at h
            rw [nI_1]
            refine bh I1 hf h24 ?_
            rw [hrow, tyStep, if_neg (by rw [h]; decide)]
            refine ⟨hT.1, fun x y hx hy hl hv => hT.2.1 x y hx hy hl ?_, hT.2.2⟩
            by_cases e : x = a ∧ y = b
            · obtain ⟨rfl, rfl⟩ := e
              rw [h] at hl; cases hl
            · omega
      exact cols I1 hf h24 hT
  exact outer I0 fT f24 ⟨f25, fun x y _ _ _ hv => absurd hv (by omega), fun t ht => absurd ht (Nat.not_lt_zero _)⟩
noncomputable def m_isT (n : Nat) (A : Nat → Int32) (t : Int32) : Bool := m_isIn t.toInt64 0 ((nI (tyO n A).tm - 1).toInt64)
set_option maxRecDepth 100000 in
set_option maxHeartbeats 4000000 in
theorem b_X12_isType_0 {z : amZ} {post : amP} {G : amG} {I : amI} {L : amL} (hz : Go z cX12_isType RX12 2 (some .boolean) 43 0 0 post) (hG : Lay G) {v1 : Int32} (h : ∃ (dq1 : Nat) (postq1 : amP), Nat.ble (dq1 + 1) 43 = true ∧ Mx (zL z) (zD z) (zB z) yX12_laysTypes cX12_laysTypes 4 none dq1 0 0 [.ref ((zB z).size + 64)] G I L postq1 ∧ ∀ (roq1 : Option Value) (Gq1 : amG) (Iq1 : amI) (Lq1 : amL), postq1 roq1 Gq1 Iq1 Lq1 → roq1 = none ∧ Lay Gq1 ∧ post (some (.int (bI (m_isIn v1.toInt64 (0 : Int64) (((Iq1 64 25) - (1 : Int32)).toInt64))))) Gq1 Iq1 Lq1) : Wx z 0 0 0 [(0, .ref ((zB z).size + 64)), (1, .int v1)] [] G I L := by
  have hz1 := hz.1
  refine am_aload_n hz1 dX12_isType_0 0 rfl rfl ?_
  obtain ⟨dq1, postq1, hdq1, hMq1, h⟩ := h
  refine am_callV hz1 cv_X12_440 [] [] hMq1 (ln_64 hG) (lk_64 hG) rfl rfl (hz.fr hdq1) (hz.lo hdq1) (by rw [hz.2.1]; exact ⟨Nat.le_refl _, Nat.le_refl _⟩) (Nat.le_of_ble_eq_true rfl) dX12_isType_1 (fun roq1 Gq1 Iq1 Lq1 hpq1 => ?_)
  obtain ⟨rfl, hGq1, h⟩ := h roq1 Gq1 Iq1 Lq1 hpq1
  refine am_iload_n hz1 dX12_isType_4 1 rfl rfl ?_
  refine am_i2l hz1 dX12_isType_5 ?_
  refine am_lconst (v := 0) hz1 dX12_isType_6 (by decide) ?_
  refine am_aload_n hz1 dX12_isType_7 0 rfl rfl ?_
  refine am_getI hz1 fl_X12_434 (ln_64 hGq1) (lk_64 hGq1) rfl dX12_isType_8 ?_
  refine am_iconst (v := 1) hz1 dX12_isType_11 (by decide) ?_
  refine am_isub hz1 dX12_isType_12 ?_
  refine am_i2l hz1 dX12_isType_13 ?_
  refine am_cSf hz ct_X12_82 [.long v1.toInt64, .long (0 : Int64), .long (((Iq1 64 25) - (1 : Int32)).toInt64)] [] (c_X12_isIn hGq1 v1.toInt64 (0 : Int64) (((Iq1 64 25) - (1 : Int32)).toInt64) ) rfl rfl rfl ⟨Nat.le_refl _, Nat.le_refl _⟩ (Nat.le_of_ble_eq_true rfl) dX12_isType_14 ?_
  exact am_zreturn hz (bI_01 _) dX12_isType_17 h
set_option maxRecDepth 100000 in
set_option maxHeartbeats 4000000 in
theorem c_X12_isType {l : Launch} {D : va_G} {B : Heap} {G : amG} {I : amI} {L : amL}  (hG : Lay G)  (v1 : Int32) {n : Nat} {A : Nat → Int32} (hM : MO L n A) (hk : I 64 24 = 0 ∨ TyK I n A) : Mx l D B yX12_isType cX12_isType 2 (some .boolean) 43 0 0 [.ref (B.size + 64), .int v1] G I L (fun r G1 I1 L1 => r = some (.int (bI (m_isT n A v1))) ∧ G1 = G ∧ L1 = L ∧ TyK I1 n A ∧ frT I I1) := by
  refine Mx.of (by decide) rfl rfl (fun z e1 e2 e3 hz => ?_)
  subst e1; subst e2; subst e3
  refine b_X12_isType_0 hz hG ?_
  refine ⟨42, _, rfl, c_X12_laysTypes hG hM hk, fun ro G2 I2 L2 ⟨r1, r2, r3, r4, r5⟩ => ⟨r1, by rw [r2]; exact hG, ?_, r2, r3, r4, r5⟩⟩
  rw [r4.2.1]; rfl
set_option maxRecDepth 100000 in
set_option maxHeartbeats 4000000 in
theorem b_X12_typesNow_0 {z : amZ} {post : amP} {G : amG} {I : amI} {L : amL} (hz : Go z cX12_typesNow RX12 1 (some .int) 43 0 0 post) (hG : Lay G)  (h : ∃ (dq1 : Nat) (postq1 : amP), Nat.ble (dq1 + 1) 43 = true ∧ Mx (zL z) (zD z) (zB z) yX12_laysTypes cX12_laysTypes 4 none dq1 0 0 [.ref ((zB z).size + 64)] G I L postq1 ∧ ∀ (roq1 : Option Value) (Gq1 : amG) (Iq1 : amI) (Lq1 : amL), postq1 roq1 Gq1 Iq1 Lq1 → roq1 = none ∧ Lay Gq1 ∧ post (some (.int (Iq1 64 25))) Gq1 Iq1 Lq1) : Wx z 0 0 0 [(0, .ref ((zB z).size + 64))] [] G I L := by
  have hz1 := hz.1
  refine am_aload_n hz1 dX12_typesNow_0 0 rfl rfl ?_
  obtain ⟨dq1, postq1, hdq1, hMq1, h⟩ := h
  refine am_callV hz1 cv_X12_440 [] [] hMq1 (ln_64 hG) (lk_64 hG) rfl rfl (hz.fr hdq1) (hz.lo hdq1) (by rw [hz.2.1]; exact ⟨Nat.le_refl _, Nat.le_refl _⟩) (Nat.le_of_ble_eq_true rfl) dX12_typesNow_1 (fun roq1 Gq1 Iq1 Lq1 hpq1 => ?_)
  obtain ⟨rfl, hGq1, h⟩ := h roq1 Gq1 Iq1 Lq1 hpq1
  refine am_aload_n hz1 dX12_typesNow_4 0 rfl rfl ?_
  refine am_getI hz1 fl_X12_434 (ln_64 hGq1) (lk_64 hGq1) rfl dX12_typesNow_5 ?_
  exact am_ireturn hz dX12_typesNow_8 h
set_option maxRecDepth 100000 in
set_option maxHeartbeats 4000000 in
theorem c_X12_typesNow {l : Launch} {D : va_G} {B : Heap} {G : amG} {I : amI} {L : amL}  (hG : Lay G)   {n : Nat} {A : Nat → Int32} (hM : MO L n A) (hk : I 64 24 = 0 ∨ TyK I n A) : Mx l D B yX12_typesNow cX12_typesNow 1 (some .int) 43 0 0 [.ref (B.size + 64)] G I L (fun r G1 I1 L1 => r = some (.int (nI (tyO n A).tm)) ∧ G1 = G ∧ L1 = L ∧ TyK I1 n A ∧ frT I I1) := by
  refine Mx.of (by decide) rfl rfl (fun z e1 e2 e3 hz => ?_)
  subst e1; subst e2; subst e3
  refine b_X12_typesNow_0 hz hG ?_
  exact ⟨42, _, rfl, c_X12_laysTypes hG hM hk, fun ro G2 I2 L2 ⟨r1, r2, r3, r4, r5⟩ => ⟨r1, by rw [r2]; exact hG, by rw [r4.2.1], r2, r3, r4, r5⟩⟩
set_option maxRecDepth 100000 in
set_option maxHeartbeats 4000000 in
theorem b_X12_valueOfType_0 {z : amZ} {post : amP} {G : amG} {I : amI} {L : amL} (hz : Go z cX12_valueOfType RX12 3 (some .long) 0 0 0 post) (hG : Lay G) {v1 : Int32} {v2 : Int32} (h : vp_in v2 256 ∧ vp_in (((17 : Int32) + ((256 : Int32) * v1)) + (I 81 v2.toNatClampNeg)) 1074 ∧ post (some (.long (L 65 (((17 : Int32) + ((256 : Int32) * v1)) + (I 81 v2.toNatClampNeg)).toNatClampNeg))) G I L) : Wx z 0 0 0 [(0, .ref ((zB z).size + 64)), (1, .int v1), (2, .int v2)] [] G I L := by
  have hz1 := hz.1
  refine am_aload_n hz1 dX12_valueOfType_0 0 rfl rfl ?_
  refine am_getR hz1 fl_X12_9 (ln_64 hG) (lk_64 hG) (lr_64_0 hG) rfl dX12_valueOfType_1 ?_
  refine am_bipush (v := 17) hz1 dX12_valueOfType_4 (by decide) ?_
  refine am_sipush (v := 256) hz1 dX12_valueOfType_6 (by decide) ?_
  refine am_iload_n hz1 dX12_valueOfType_9 1 rfl rfl ?_
  refine am_imul hz1 dX12_valueOfType_10 ?_
  refine am_iadd hz1 dX12_valueOfType_11 ?_
  refine am_aload_n hz1 dX12_valueOfType_12 0 rfl rfl ?_
  refine am_getR hz1 fl_X12_63 (ln_64 hG) (lk_64 hG) (lr_64_27 hG) rfl dX12_valueOfType_13 ?_
  refine am_iload_n hz1 dX12_valueOfType_16 2 rfl rfl ?_
  obtain ⟨g1, h⟩ := h
  refine am_iald hz1 (ln_81 hG) (lk_81 hG) (by rw [(ll_81 hG)]; exact g1) dX12_valueOfType_17 ?_
  refine am_iadd hz1 dX12_valueOfType_18 ?_
  obtain ⟨g2, h⟩ := h
  refine am_lald hz1 (ln_65 hG) (lk_65 hG) (by rw [(ll_65 hG)]; exact g2) dX12_valueOfType_19 ?_
  exact am_lreturn hz dX12_valueOfType_20 h
set_option maxRecDepth 100000 in
set_option maxHeartbeats 4000000 in
theorem c_X12_valueOfType {l : Launch} {D : va_G} {B : Heap} {G : amG} {I : amI} {L : amL}  (hG : Lay G)  (v1 : Int32) (v2 : Int32) (hf : fnOk v1) (ht : vp_in v2 256) (h81 : vp_in (I 81 v2.toNatClampNeg) 256) : Fx l D B yX12_valueOfType cX12_valueOfType 3 (some .long) 0 [.ref (B.size + 64), .int v1, .int v2] G I L (some (.long (L 65 (17 + 256 * v1.toNatClampNeg + (I 81 v2.toNatClampNeg).toNatClampNeg)))) I L := by
  refine Mx.of (by decide) rfl rfl (fun z e1 e2 e3 hz => ?_)
  subst e1; subst e2; subst e3
  refine b_X12_valueOfType_0 hz hG ?_
  obtain ⟨f, hf, rfl⟩ := hf
  obtain ⟨x, hx, e⟩ := vp_in_of h81 (by decide)
  rw [e, fcell, cl_nI (n := 17 + 256 * f + x) (by omega)]
  exact ⟨ht, in_nI (by omega) (by decide), by rw [cl_nI (n := f) (by omega), cl_nI (n := x) (by omega)], rfl, rfl, rfl⟩
/-- whether a function's values follow the types -/
noncomputable def rdP (n : Nat) (A : Nat → Int32) (F : Nat → Int64) (a b : Nat) : Bool := le A a b && decide (¬ F (16 * a + b) = F ((tyO n A).fs ((tyO n A).ty (16 * a + b))))
noncomputable def rdM1 (n : Nat) (A : Nat → Int32) (F : Nat → Int64) (a : Nat) : Bool := scan (rdP n A F a) (fun _ => true) false n 0
noncomputable def rdM (n : Nat) (A : Nat → Int32) (F : Nat → Int64) : Bool := scan (rdM1 n A F) (fun _ => false) true n 0
theorem fs_256 {n : Nat} {A : Nat → Int32} (hP : PO n A) (h16 : n ≤ 16) {t : Nat} (ht : t < (tyO n A).tm) : (tyO n A).fs t < 256 := by
  obtain ⟨a, b, ha, hb, _, e⟩ := (tyO_I hP h16).2 t ht
  rw [e]; omega
set_option maxRecDepth 100000 in
set_option maxHeartbeats 4000000 in
theorem b_X12_isReduced_0 {z : amZ} {post : amP} {G : amG} {I : amI} {L : amL} (hz : Go z cX12_isReduced RX12 4 (some .boolean) 43 0 0 post) (hG : Lay G) {v1 : Int32} (h : ∃ (dq1 : Nat) (postq1 : amP), Nat.ble (dq1 + 1) 43 = true ∧ Mx (zL z) (zD z) (zB z) yX12_laysTypes cX12_laysTypes 4 none dq1 0 0 [.ref ((zB z).size + 64)] G I L postq1 ∧ ∀ (roq1 : Option Value) (Gq1 : amG) (Iq1 : amI) (Lq1 : amL), postq1 roq1 Gq1 Iq1 Lq1 → roq1 = none ∧ Lay Gq1 ∧ Wx z 0 0 6 [(0, .ref ((zB z).size + 64)), (1, .int v1), (2, .int 0)] [] Gq1 Iq1 Lq1) : Wx z 0 0 0 [(0, .ref ((zB z).size + 64)), (1, .int v1)] [] G I L := by
  have hz1 := hz.1
  refine am_aload_n hz1 dX12_isReduced_0 0 rfl rfl ?_
  obtain ⟨dq1, postq1, hdq1, hMq1, h⟩ := h
  refine am_callV hz1 cv_X12_440 [] [] hMq1 (ln_64 hG) (lk_64 hG) rfl rfl (hz.fr hdq1) (hz.lo hdq1) (by rw [hz.2.1]; exact ⟨Nat.le_refl _, Nat.le_refl _⟩) (Nat.le_of_ble_eq_true rfl) dX12_isReduced_1 (fun roq1 Gq1 Iq1 Lq1 hpq1 => ?_)
  obtain ⟨rfl, hGq1, h⟩ := h roq1 Gq1 Iq1 Lq1 hpq1
  refine am_iconst (v := 0) hz1 dX12_isReduced_4 (by decide) ?_
  refine am_istore_n (lv' := [(2, .int 0), (0, .ref ((zB z).size + 64)), (1, .int v1)]) hz1 dX12_isReduced_5 rfl rfl rfl ?_
  exact am_sub (lv' := [(0, .ref ((zB z).size + 64)), (1, .int v1), (2, .int 0)]) [1, 2, 0] rfl h
set_option maxRecDepth 100000 in
set_option maxHeartbeats 4000000 in
theorem b_X12_isReduced_6 {z : amZ} {post : amP} {G : amG} {I : amI} {L : amL} (hz : Go z cX12_isReduced RX12 4 (some .boolean) 43 0 0 post) (hG : Lay G) {v1 : Int32} {v2 : Int32} (h : (((m_many L) ≤ v2) → post (some (.int 1)) G I L) ∧ ((¬ (m_many L) ≤ v2) → Wx z 0 0 16 [(0, .ref ((zB z).size + 64)), (1, .int v1), (2, .int v2), (3, .int 0)] [] G I L)) : Wx z 0 0 6 [(0, .ref ((zB z).size + 64)), (1, .int v1), (2, .int v2)] [] G I L := by
  have hz1 := hz.1
  refine am_iload_n hz1 dX12_isReduced_6 2 rfl rfl ?_
  refine am_aload_n hz1 dX12_isReduced_7 0 rfl rfl ?_
  refine am_cVf hz cv_X12_78 [] [.int v2] (c_X12_many hG  ) (ln_64 hG) (lk_64 hG) rfl rfl rfl ⟨Nat.le_refl _, Nat.le_refl _⟩ (Nat.le_of_ble_eq_true rfl) dX12_isReduced_8 ?_
  refine am_icmp_ge (tgt := 78) hz1 dX12_isReduced_11 (by decide) (fun c1 => ?_) (fun c1 => ?_)
  · replace h := h.1 c1
    refine am_iconst (v := 1) hz1 dX12_isReduced_78 (by decide) ?_
    exact am_zreturn hz (by decide) dX12_isReduced_79 h
  · replace h := h.2 c1
    refine am_iconst (v := 0) hz1 dX12_isReduced_14 (by decide) ?_
    refine am_istore_n (lv' := [(3, .int 0), (0, .ref ((zB z).size + 64)), (1, .int v1), (2, .int v2)]) hz1 dX12_isReduced_15 rfl rfl rfl ?_
    exact am_sub (lv' := [(0, .ref ((zB z).size + 64)), (1, .int v1), (2, .int v2), (3, .int 0)]) [1, 2, 3, 0] rfl h
set_option maxRecDepth 100000 in
set_option maxHeartbeats 4000000 in
theorem b_X12_isReduced_16 {z : amZ} {post : amP} {G : amG} {I : amI} {L : amL} (hz : Go z cX12_isReduced RX12 4 (some .boolean) 43 0 0 post) (hG : Lay G) {v1 : Int32} {v2 : Int32} {v3 : Int32} (h : (((m_many L) ≤ v3) → Wx z 0 0 6 [(0, .ref ((zB z).size + 64)), (1, .int v1), (2, .int (v2 + 1))] [] G I L) ∧ ((¬ (m_many L) ≤ v3) → (vp_in v2 16) ∧ ((m_am L v2 v3 = false) → Wx z 0 0 16 [(0, .ref ((zB z).size + 64)), (1, .int v1), (2, .int v2), (3, .int (v3 + 1))] [] G I L) ∧ ((m_am L v2 v3 = true) → vp_in (m_at v1 v2 v3) 1074 ∧ vp_in (((16 : Int32) * v2) + v3) 256 ∧ (fnOk v1) ∧ (vp_in (I 80 (((16 : Int32) * v2) + v3).toNatClampNeg) 256) ∧ (vp_in (I 81 (I 80 (((16 : Int32) * v2) + v3).toNatClampNeg).toNatClampNeg) 256) ∧ (((L 65 (m_at v1 v2 v3).toNatClampNeg) = (L 65 (17 + 256 * v1.toNatClampNeg + (I 81 (I 80 (((16 : Int32) * v2) + v3).toNatClampNeg).toNatClampNeg).toNatClampNeg))) → Wx z 0 0 16 [(0, .ref ((zB z).size + 64)), (1, .int v1), (2, .int v2), (3, .int (v3 + 1))] [] G I L) ∧ ((¬ (L 65 (m_at v1 v2 v3).toNatClampNeg) = (L 65 (17 + 256 * v1.toNatClampNeg + (I 81 (I 80 (((16 : Int32) * v2) + v3).toNatClampNeg).toNatClampNeg).toNatClampNeg))) → post (some (.int 0)) G I L)))) : Wx z 0 0 16 [(0, .ref ((zB z).size + 64)), (1, .int v1), (2, .int v2), (3, .int v3)] [] G I L := by
  have hz1 := hz.1
  refine am_iload_n hz1 dX12_isReduced_16 3 rfl rfl ?_
  refine am_aload_n hz1 dX12_isReduced_17 0 rfl rfl ?_
  refine am_cVf hz cv_X12_78 [] [.int v3] (c_X12_many hG  ) (ln_64 hG) (lk_64 hG) rfl rfl rfl ⟨Nat.le_refl _, Nat.le_refl _⟩ (Nat.le_of_ble_eq_true rfl) dX12_isReduced_18 ?_
  refine am_icmp_ge (tgt := 72) hz1 dX12_isReduced_21 (by decide) (fun c1 => ?_) (fun c1 => ?_)
  · replace h := h.1 c1
    refine am_iinc (v := v2 + 1) (lv' := [(2, .int (v2 + 1)), (0, .ref ((zB z).size + 64)), (1, .int v1), (3, .int v3)]) hz1 dX12_isReduced_72 2 rfl rfl rfl rfl ?_
    refine am_goto (tgt := 6) hz1 dX12_isReduced_75 (by decide) ?_
    exact am_sub (lv' := [(0, .ref ((zB z).size + 64)), (1, .int v1), (2, .int (v2 + 1))]) [1, 2, 0] rfl h
  · replace h := h.2 c1
    refine am_aload_n hz1 dX12_isReduced_24 0 rfl rfl ?_
    refine am_iload_n hz1 dX12_isReduced_25 2 rfl rfl ?_
    refine am_iload_n hz1 dX12_isReduced_26 3 rfl rfl ?_
    obtain ⟨g2, h⟩ := h
    refine am_cVf hz cv_X12_94 [.int v2, .int v3] [] (c_X12_isAtMost hG v2 v3 g2) (ln_64 hG) (lk_64 hG) rfl rfl rfl ⟨Nat.le_refl _, Nat.le_refl _⟩ (Nat.le_of_ble_eq_true rfl) dX12_isReduced_27 ?_
    refine am_ifb_eq (tgt := 66) hz1 dX12_isReduced_30 (by decide) (fun c3 => ?_) (fun c3 => ?_)
    · replace h := h.1 c3
      refine am_iinc (v := v3 + 1) (lv' := [(3, .int (v3 + 1)), (0, .ref ((zB z).size + 64)), (1, .int v1), (2, .int v2)]) hz1 dX12_isReduced_66 3 rfl rfl rfl rfl ?_
      refine am_goto (tgt := 16) hz1 dX12_isReduced_69 (by decide) ?_
      exact am_sub (lv' := [(0, .ref ((zB z).size + 64)), (1, .int v1), (2, .int v2), (3, .int (v3 + 1))]) [1, 2, 3, 0] rfl h
    · replace h := h.2 c3
      refine am_aload_n hz1 dX12_isReduced_33 0 rfl rfl ?_
      refine am_getR hz1 fl_X12_9 (ln_64 hG) (lk_64 hG) (lr_64_0 hG) rfl dX12_isReduced_34 ?_
      refine am_iload_n hz1 dX12_isReduced_37 1 rfl rfl ?_
      refine am_iload_n hz1 dX12_isReduced_38 2 rfl rfl ?_
      refine am_iload_n hz1 dX12_isReduced_39 3 rfl rfl ?_
      refine am_cSf hz ct_X12_301 [.int v1, .int v2, .int v3] [.ref ((zB z).size + 65)] (c_X12_at hG v1 v2 v3 ) rfl rfl rfl ⟨Nat.le_refl _, Nat.le_refl _⟩ (Nat.le_of_ble_eq_true rfl) dX12_isReduced_40 ?_
      obtain ⟨g4, h⟩ := h
      refine am_lald hz1 (ln_65 hG) (lk_65 hG) (by rw [(ll_65 hG)]; exact g4) dX12_isReduced_43 ?_
      refine am_aload_n hz1 dX12_isReduced_44 0 rfl rfl ?_
      refine am_iload_n hz1 dX12_isReduced_45 1 rfl rfl ?_
      refine am_aload_n hz1 dX12_isReduced_46 0 rfl rfl ?_
      refine am_getR hz1 fl_X12_60 (ln_64 hG) (lk_64 hG) (lr_64_26 hG) rfl dX12_isReduced_47 ?_
      refine am_bipush (v := 16) hz1 dX12_isReduced_50 (by decide) ?_
      refine am_iload_n hz1 dX12_isReduced_52 2 rfl rfl ?_
      refine am_imul hz1 dX12_isReduced_53 ?_
      refine am_iload_n hz1 dX12_isReduced_54 3 rfl rfl ?_
      refine am_iadd hz1 dX12_isReduced_55 ?_
      obtain ⟨g5, h⟩ := h
      refine am_iald hz1 (ln_80 hG) (lk_80 hG) (by rw [(ll_80 hG)]; exact g5) dX12_isReduced_56 ?_
      obtain ⟨g6, h⟩ := h
      obtain ⟨g7, h⟩ := h
      obtain ⟨g8, h⟩ := h
      refine am_cVf hz cv_X12_446 [.int v1, .int (I 80 (((16 : Int32) * v2) + v3).toNatClampNeg)] [.long (L 65 (m_at v1 v2 v3).toNatClampNeg)] (c_X12_valueOfType hG v1 (I 80 (((16 : Int32) * v2) + v3).toNatClampNeg) g6 g7 g8) (ln_64 hG) (lk_64 hG) rfl rfl rfl ⟨Nat.le_refl _, Nat.le_refl _⟩ (Nat.le_of_ble_eq_true rfl) dX12_isReduced_57 ?_
      refine am_lif_eq (tgt := 66) hz1 dX12_isReduced_60 dX12_isReduced_61 (by decide) (fun c9 => ?_) (fun c9 => ?_)
      · replace h := h.1 c9
        refine am_iinc (v := v3 + 1) (lv' := [(3, .int (v3 + 1)), (0, .ref ((zB z).size + 64)), (1, .int v1), (2, .int v2)]) hz1 dX12_isReduced_66 3 rfl rfl rfl rfl ?_
        refine am_goto (tgt := 16) hz1 dX12_isReduced_69 (by decide) ?_
        exact am_sub (lv' := [(0, .ref ((zB z).size + 64)), (1, .int v1), (2, .int v2), (3, .int (v3 + 1))]) [1, 2, 3, 0] rfl h
      · replace h := h.2 c9
        refine am_iconst (v := 0) hz1 dX12_isReduced_64 (by decide) ?_
        exact am_zreturn hz (by decide) dX12_isReduced_65 h
set_option maxRecDepth 100000 in
set_option maxHeartbeats 4000000 in
theorem c_X12_isReduced {l : Launch} {D : va_G} {B : Heap} {G : amG} {I : amI} {L : amL}  (hG : Lay G)  (v1 : Int32) {n f : Nat} {A : Nat → Int32} (hM : MO L n A) (hk : I 64 24 = 0 ∨ TyK I n A) (hf : f < 4) (hv : v1 = nI f) : Mx l D B yX12_isReduced cX12_isReduced 4 (some .boolean) 43 0 0 [.ref (B.size + 64), .int v1] G I L (fun r G1 I1 L1 => r = some (.int (bI (rdM n A (fun k => L 65 (17 + 256 * f + k))))) ∧ G1 = G ∧ L1 = L ∧ TyK I1 n A ∧ frT I I1) := by
  refine Mx.of (by decide) rfl rfl (fun z e1 e2 e3 hz => ?_)
  subst e1; subst e2; subst e3
  refine b_X12_isReduced_0 hz hG ?_
  subst hv
  have h16 := hM.2.1
  have hP := hM.2.2.1
  refine ⟨42, _, rfl, c_X12_laysTypes hG hM hk, fun ro G2 I2 L2 ⟨r1, r2, r3, r4, r5⟩ => ⟨r1, by rw [r2]; exact hG, ?_⟩⟩
  rw [r2, r3]
  refine for_up (P := fun i => scan (rdM1 n A (fun k => L 65 (17 + 256 * f + k))) (fun _ => false) true (n - i) i = rdM n A (fun k => L 65 (17 + 256 * f + k)) → Wx z 0 0 6 [(0, .ref ((zB z).size + 64)), (1, .int (nI f)), (2, .int (nI i))] [] G I2 L) (n := n) ?_ ?_ (Nat.zero_le _) (by rw [Nat.sub_zero, rdM])
  · intro e
    rw [scan_0] at e
    exact b_X12_isReduced_6 hz hG ⟨fun _ => ⟨by rw [← e]; rfl, rfl, rfl, r4, r5⟩, fun h => absurd (mm_le hM) h⟩
  · intro i hi ih e
    rw [scan_s hi] at e
    refine b_X12_isReduced_6 hz hG ⟨fun h => absurd h (mm_ge hM hi), fun _ => ?_⟩
    refine for_up (P := fun j => scan (rdP n A (fun k => L 65 (17 + 256 * f + k)) i) (fun _ => true) false (n - j) j = rdM1 n A (fun k => L 65 (17 + 256 * f + k)) i → Wx z 0 0 16 [(0, .ref ((zB z).size + 64)), (1, .int (nI f)), (2, .int (nI i)), (3, .int (nI j))] [] G I2 L) (n := n) ?_ ?_ (Nat.zero_le _) (by rw [Nat.sub_zero, rdM1])
    · intro e6
      rw [scan_0] at e6
      refine b_X12_isReduced_16 hz hG ⟨fun _ => ?_, fun h => absurd (mm_le hM) h⟩
      rw [if_neg (by rw [← e6]; decide)] at e
      rw [nI_1]
      exact ih e
    · intro j hj jh e6
      rw [scan_s hj] at e6
      have hat : m_at (nI f) (nI i) (nI j) = nI (17 + 256 * f + (16 * i + j)) := by
        rw [m_at, show (16 : Int32) = nI 16 from rfl, show (17 : Int32) = nI 17 from rfl, show (256 : Int32) = nI 256 from rfl, nI_mul, nI_mul, nI_add, nI_add, nI_add, Nat.add_assoc]
      refine b_X12_isReduced_16 hz hG ⟨fun h => absurd h (mm_ge hM hj), fun _ => ⟨in16 h16 hi, fun g => ?_, fun g => ?_⟩⟩
      · rw [hM.am hi (by omega)] at g
        rw [if_neg (by rw [rdP, g]; simp)] at e6
        rw [nI_1]
        exact jh e6
      · rw [hM.am hi (by omega)] at g
        have htl := tyO_lt h16 hi hj g
        have htm := (tyO_I hP h16).1
        have hfs := fs_256 hP h16 htl
        have e80 : I2 80 (nI (16 * i + j)).toNatClampNeg = nI ((tyO n A).ty (16 * i + j)) := by
          rw [cl_nI (by omega)]; exact r4.2.2.1 i j hi hj g (by omega)
        have e81 : I2 81 (nI ((tyO n A).ty (16 * i + j))).toNatClampNeg = nI ((tyO n A).fs ((tyO n A).ty (16 * i + j))) := by
          rw [cl_nI (by omega)]; exact r4.2.2.2 _ htl
        rw [hat, c16, e80, e81, cl_nI (n := 17 + 256 * f + (16 * i + j)) (by omega), cl_nI (n := f) (by omega), cl_nI (n := (tyO n A).fs ((tyO n A).ty (16 * i + j))) (by omega), nI_1]
        refine ⟨in_nI (by omega) (by decide), in_nI (by omega) (by decide), ⟨f, hf, rfl⟩, in_nI (by omega) (by decide), in_nI hfs (by decide), fun q => ?_, fun q => ⟨?_, rfl, rfl, r4, r5⟩⟩
        · rw [if_neg (by rw [rdP, g, decide_eq_false (not_not_intro q)]; decide)] at e6
          exact jh e6
        · rw [if_pos (by rw [rdP, g, decide_eq_true q]; rfl)] at e6
          rw [if_pos e6.symm] at e
          rw [← e]; rfl
set_option maxRecDepth 100000 in
set_option maxHeartbeats 4000000 in
theorem b_X12_reducedOnes_0 {z : amZ} {post : amP} {G : amG} {I : amI} {L : amL} (hz : Go z cX12_reducedOnes RX12 3 (some .int) 44 0 0 post) (hG : Lay G)  (h : Wx z 0 0 4 [(0, .ref ((zB z).size + 64)), (1, .int 0), (2, .int 0)] [] G I L) : Wx z 0 0 0 [(0, .ref ((zB z).size + 64))] [] G I L := by
  have hz1 := hz.1
  refine am_iconst (v := 0) hz1 dX12_reducedOnes_0 (by decide) ?_
  refine am_istore_n (lv' := [(1, .int 0), (0, .ref ((zB z).size + 64))]) hz1 dX12_reducedOnes_1 rfl rfl rfl ?_
  refine am_iconst (v := 0) hz1 dX12_reducedOnes_2 (by decide) ?_
  refine am_istore_n (lv' := [(2, .int 0), (1, .int 0), (0, .ref ((zB z).size + 64))]) hz1 dX12_reducedOnes_3 rfl rfl rfl ?_
  exact am_sub (lv' := [(0, .ref ((zB z).size + 64)), (1, .int 0), (2, .int 0)]) [2, 1, 0] rfl h
set_option maxRecDepth 100000 in
set_option maxHeartbeats 4000000 in
theorem b_X12_reducedOnes_4 {z : amZ} {post : amP} {G : amG} {I : amI} {L : amL} (hz : Go z cX12_reducedOnes RX12 3 (some .int) 44 0 0 post) (hG : Lay G) {v1 : Int32} {v2 : Int32} (h : (((4 : Int32) ≤ v2) → post (some (.int v1)) G I L) ∧ ((¬ (4 : Int32) ≤ v2) → ∃ (dq2 : Nat) (postq2 : amP), Nat.ble (dq2 + 1) 44 = true ∧ Mx (zL z) (zD z) (zB z) yX12_isReduced cX12_isReduced 4 (some .boolean) dq2 0 0 [.ref ((zB z).size + 64), .int v2] G I L postq2 ∧ ∀ (roq2 : Option Value) (Gq2 : amG) (Iq2 : amI) (Lq2 : amL), postq2 roq2 Gq2 Iq2 Lq2 → ∃ (rq2 : Int32), roq2 = some (.int rq2) ∧ Lay Gq2 ∧ ((rq2 = 0) → Wx z 0 0 4 [(0, .ref ((zB z).size + 64)), (1, .int (v1 ||| (0 : Int32))), (2, .int (v2 + 1))] [] Gq2 Iq2 Lq2) ∧ ((¬ rq2 = 0) → Wx z 0 0 4 [(0, .ref ((zB z).size + 64)), (1, .int (v1 ||| ((1 : Int32) <<< (v2 &&& 31)))), (2, .int (v2 + 1))] [] Gq2 Iq2 Lq2))) : Wx z 0 0 4 [(0, .ref ((zB z).size + 64)), (1, .int v1), (2, .int v2)] [] G I L := by
  have hz1 := hz.1
  refine am_iload_n hz1 dX12_reducedOnes_4 2 rfl rfl ?_
  refine am_iconst (v := 4) hz1 dX12_reducedOnes_5 (by decide) ?_
  refine am_icmp_ge (tgt := 33) hz1 dX12_reducedOnes_6 (by decide) (fun c1 => ?_) (fun c1 => ?_)
  · replace h := h.1 c1
    refine am_iload_n hz1 dX12_reducedOnes_33 1 rfl rfl ?_
    exact am_ireturn hz dX12_reducedOnes_34 h
  · replace h := h.2 c1
    refine am_iload_n hz1 dX12_reducedOnes_9 1 rfl rfl ?_
    refine am_aload_n hz1 dX12_reducedOnes_10 0 rfl rfl ?_
    refine am_iload_n hz1 dX12_reducedOnes_11 2 rfl rfl ?_
    obtain ⟨dq2, postq2, hdq2, hMq2, h⟩ := h
    refine am_callV hz1 cv_X12_449 [.int v2] [.int v1] hMq2 (ln_64 hG) (lk_64 hG) rfl rfl (hz.fr hdq2) (hz.lo hdq2) (by rw [hz.2.1]; exact ⟨Nat.le_refl _, Nat.le_refl _⟩) (Nat.le_of_ble_eq_true rfl) dX12_reducedOnes_12 (fun roq2 Gq2 Iq2 Lq2 hpq2 => ?_)
    obtain ⟨rq2, rfl, hGq2, h⟩ := h roq2 Gq2 Iq2 Lq2 hpq2
    refine am_if_eq (tgt := 24) hz1 dX12_reducedOnes_15 (by decide) (fun c3 => ?_) (fun c3 => ?_)
    · replace h := h.1 c3
      refine am_iconst (v := 0) hz1 dX12_reducedOnes_24 (by decide) ?_
      refine am_ior hz1 dX12_reducedOnes_25 ?_
      refine am_istore_n (lv' := [(1, .int (v1 ||| (0 : Int32))), (0, .ref ((zB z).size + 64)), (2, .int v2)]) hz1 dX12_reducedOnes_26 rfl rfl rfl ?_
      refine am_iinc (v := v2 + 1) (lv' := [(2, .int (v2 + 1)), (1, .int (v1 ||| (0 : Int32))), (0, .ref ((zB z).size + 64))]) hz1 dX12_reducedOnes_27 2 rfl rfl rfl rfl ?_
      refine am_goto (tgt := 4) hz1 dX12_reducedOnes_30 (by decide) ?_
      exact am_sub (lv' := [(0, .ref ((zB z).size + 64)), (1, .int (v1 ||| (0 : Int32))), (2, .int (v2 + 1))]) [2, 1, 0] rfl h
    · replace h := h.2 c3
      refine am_iconst (v := 1) hz1 dX12_reducedOnes_18 (by decide) ?_
      refine am_iload_n hz1 dX12_reducedOnes_19 2 rfl rfl ?_
      refine am_ishl hz1 dX12_reducedOnes_20 ?_
      refine am_goto (tgt := 25) hz1 dX12_reducedOnes_21 (by decide) ?_
      refine am_ior hz1 dX12_reducedOnes_25 ?_
      refine am_istore_n (lv' := [(1, .int (v1 ||| ((1 : Int32) <<< (v2 &&& 31)))), (0, .ref ((zB z).size + 64)), (2, .int v2)]) hz1 dX12_reducedOnes_26 rfl rfl rfl ?_
      refine am_iinc (v := v2 + 1) (lv' := [(2, .int (v2 + 1)), (1, .int (v1 ||| ((1 : Int32) <<< (v2 &&& 31)))), (0, .ref ((zB z).size + 64))]) hz1 dX12_reducedOnes_27 2 rfl rfl rfl rfl ?_
      refine am_goto (tgt := 4) hz1 dX12_reducedOnes_30 (by decide) ?_
      exact am_sub (lv' := [(0, .ref ((zB z).size + 64)), (1, .int (v1 ||| ((1 : Int32) <<< (v2 &&& 31)))), (2, .int (v2 + 1))]) [2, 1, 0] rfl h
set_option maxRecDepth 100000 in
set_option maxHeartbeats 4000000 in
theorem c_X12_reducedOnes {l : Launch} {D : va_G} {B : Heap} {G : amG} {I : amI} {L : amL}  (hG : Lay G)   {n : Nat} {A : Nat → Int32} (hM : MO L n A) (hk : I 64 24 = 0 ∨ TyK I n A) : Mx l D B yX12_reducedOnes cX12_reducedOnes 3 (some .int) 44 0 0 [.ref (B.size + 64)] G I L (fun r G1 I1 L1 => r = some (.int (mkset (fun f => rdM n A (fun k => L 65 (17 + 256 * f + k))) 4)) ∧ G1 = G ∧ L1 = L ∧ TyK I1 n A ∧ frT I I1) := by
  refine Mx.of (by decide) rfl rfl (fun z e1 e2 e3 hz => ?_)
  subst e1; subst e2; subst e3
  refine b_X12_reducedOnes_0 hz hG ?_
  have main : ∀ I1 : amI, (I1 64 24 = 0 ∨ TyK I1 n A) → (0 = 4 → TyK I1 n A) → frT I I1 → Wx z 0 0 4 [(0, .ref ((zB z).size + 64)), (1, .int (mkset (fun f => rdM n A (fun k => L 65 (17 + 256 * f + k))) 0)), (2, .int (nI 0))] [] G I1 L := by
    refine for_up (P := fun i => ∀ I1 : amI, (I1 64 24 = 0 ∨ TyK I1 n A) → (i = 4 → TyK I1 n A) → frT I I1 → Wx z 0 0 4 [(0, .ref ((zB z).size + 64)), (1, .int (mkset (fun f => rdM n A (fun k => L 65 (17 + 256 * f + k))) i)), (2, .int (nI i))] [] G I1 L) (n := 4) ?_ ?_ (Nat.zero_le _)
    · intro I1 hk1 h4 hf
      exact b_X12_reducedOnes_4 hz hG ⟨fun _ => ⟨rfl, rfl, rfl, h4 rfl, hf⟩, fun h => absurd (nI_le (a := 4) (b := 4) (Nat.le_refl _) (by decide)) h⟩
    · intro i hi ih I1 hk1 h4 hf
      refine b_X12_reducedOnes_4 hz hG ⟨fun h => absurd h (nI_ge (b := 4) hi (by decide)), fun _ => ⟨43, _, rfl, c_X12_isReduced hG _ hM hk1 hi rfl, fun ro G2 I2 L2 ⟨r1, r2, r3, r4, r5⟩ => ⟨_, r1, by rw [r2]; exact hG, fun q => ?_, fun q => ?_⟩⟩⟩
      · have := ih I2 (Or.inr r4) (fun _ => r4) (frT_t hf r5)
        rw [mkset, if_neg (fun e => by rw [e] at q; exact absurd q (by decide))] at this
        rw [r2, r3, nI_1]
        exact this
      · have := ih I2 (Or.inr r4) (fun _ => r4) (frT_t hf r5)
        have hh : rdM n A (fun k => L 65 (17 + 256 * i + k)) = true := by
          cases e : rdM n A (fun k => L 65 (17 + 256 * i + k))
          · rw [e] at q; exact absurd rfl q
          · rfl
        rw [mkset, if_pos hh] at this
        rw [r2, r3, nI_1]
        exact this
  exact main I hk (fun q => absurd q (by decide)) frT_r
