/-! THE REFERENCE READS: kinds -/
def fR (R : Nat → Nat → Bool) (a b : Nat) : Int32 := ((1 : Int32) <<< (nI a &&& 31)) ||| mkset (R a) b
/-- rows below a are told, row a up to b -/
def tSt (R : Nat → Nat → Bool) (n a b : Nat) (f : Nat → Int32) : Prop := (∀ j, j < a → f j = fR R j n) ∧ (a < n → f a = fR R a b) ∧ ∀ j, a < j → j < n → f j = (1 : Int32) <<< (nI j &&& 31)
theorem fR_z {R : Nat → Nat → Bool} {a b : Nat} (h : ∀ i, i < b → R a i = false) : fR R a b = (1 : Int32) <<< (nI a &&& 31) := by
  have e : mkset (R a) b = mkset (fun _ => false) b := mkset_cong h
  have z : ∀ b, mkset (fun _ => false) b = 0 := fun b => by
    induction b with
    | zero => rfl
    | succ b ih => rw [mkset, ih, if_neg (by decide), Int32.or_zero]
  rw [fR, e, z, Int32.or_zero]
theorem tSt_0 {R : Nat → Nat → Bool} {n : Nat} {g : Nat → Int32} (h16 : n ≤ 16) : tSt R n 0 0 (wr g 0 16 (m_al (nI n))) := by
  have e : ∀ j, j < n → wr g 0 16 (m_al (nI n)) j = (1 : Int32) <<< (nI j &&& 31) := fun j hj => by rw [wr_in (by omega), Nat.sub_zero, m_al, if_neg (nI_ge hj (by omega))]
  exact ⟨fun j hj => absurd hj (Nat.not_lt_zero _), fun h => by rw [e 0 h, fR_z (fun i hi => absurd hi (Nat.not_lt_zero _))], fun j _ hj => e j hj⟩
theorem tSt_n {R : Nat → Nat → Bool} {n a : Nat} {f : Nat → Int32} (h : tSt R n a n f) (ha : a < n) : tSt R n (a + 1) 0 f :=
  ⟨fun j hj => by
    by_cases e : j = a
    · rw [e]; exact h.2.1 ha
    · exact h.1 j (by omega), fun h2 => by rw [h.2.2 (a + 1) (by omega) h2, fR_z (fun i hi => absurd hi (Nat.not_lt_zero _))], fun j h1 h2 => h.2.2 j (by omega) h2⟩
theorem tSt_f {R : Nat → Nat → Bool} {n a b : Nat} {f : Nat → Int32} (h : tSt R n a b f) (hR : R a b = false) : tSt R n a (b + 1) f :=
  ⟨h.1, fun ha => by rw [h.2.1 ha, fR, fR, mkset, if_neg (by rw [hR]; decide), Int32.or_zero], h.2.2⟩
theorem tSt_t {R : Nat → Nat → Bool} {n a b : Nat} {f : Nat → Int32} (h : tSt R n a b f) (ha : a < n) (hR : R a b = true) : tSt R n a (b + 1) (upd f a (f a ||| (1 : Int32) <<< (nI b &&& 31))) :=
  ⟨fun j hj => by rw [upd_n (by omega)]; exact h.1 j hj, fun _ => by rw [upd_s, h.2.1 ha, fR, fR, mkset, if_pos hR, Int32.or_assoc], fun j h1 h2 => by rw [upd_n (by omega)]; exact h.2.2 j h1 h2⟩
theorem tSt_d {R : Nat → Nat → Bool} {n a b : Nat} {f : Nat → Int32} (h : tSt R n a 0 f) (hR : ∀ i, i < b → R a i = false) : tSt R n a b f :=
  ⟨h.1, fun ha => by rw [h.2.1 ha, fR_z hR, fR_z (fun i hi => absurd hi (Nat.not_lt_zero _))], h.2.2⟩
theorem tSt_e {R : Nat → Nat → Bool} {n : Nat} {b : Nat} {f : Nat → Int32} (h : tSt R n n b f) (h16 : n ≤ 16) {j : Nat} (hj : j < n) : f j = upS (kA n R) j := by rw [h.1 j hj, kA_up h16 hj, fR]
/-- what reading a kind leaves -/
def kdP (G : amG) (I : amI) (L : amL) (m : Nat) (T : Nat → Int32) (q a : Nat) : amP := fun r G1 I1 L1 => r = some (.int (bI (decide ((rdK m T q a).1 = 0)))) ∧ G1 = G ∧ L1 = L ∧ frR I I1 ∧ ((rdK m T q a).1 = 0 → I1 64 8 = nI (rdK m T q a).2.1 ∧ I1 64 12 = nI (rdK m T q a).2.2.1 ∧ ∀ j, j < (rdK m T q a).2.2.1 → I1 70 j = upS (rdK m T q a).2.2.2 j) ∧ (¬ (rdK m T q a).1 = 0 → I1 64 9 = nI (rdK m T q a).1)
theorem bI_ne {b : Bool} : ¬ bI b = 0 ↔ b = true := by cases b <;> decide
theorem bI_eq {b : Bool} : bI b = 0 ↔ b = false := by cases b <;> decide
/-- the number of a kind was wrong -/
theorem kd_no {G : amG} {I I1 : amI} {L : amL} {m q a : Nat} {T : Nat → Int32} (h : ¬ (rdN m T (kLo q) (kHi q) (a + wL q)).1 = 0) (hf : frR I I1) (h9 : I1 64 9 = nI (rdN m T (kLo q) (kHi q) (a + wL q)).1) : kdP G I L m T q a (some (.int 0)) G I1 L := by
  have e : rdK m T q a = ((rdN m T (kLo q) (kHi q) (a + wL q)).1, a, 0, fun _ => 0) := by rw [rdK, if_neg h]
  rw [kdP, e, decide_eq_false h]
  exact ⟨rfl, rfl, rfl, hf, fun w => absurd w h, fun _ => h9⟩
theorem kd_yes {G : amG} {I I1 : amI} {L : amL} {m q a : Nat} {T : Nat → Int32} (h : (rdN m T (kLo q) (kHi q) (a + wL q)).1 = 0) (hn : kN q (rdN m T (kLo q) (kHi q) (a + wL q)).2.1 ≤ 16) (hf : frR I I1) (h8 : I1 64 8 = nI (rdN m T (kLo q) (kHi q) (a + wL q)).2.2.2) (h12 : I1 64 12 = nI (kN q (rdN m T (kLo q) (kHi q) (a + wL q)).2.1)) (h70 : ∀ j, j < kN q (rdN m T (kLo q) (kHi q) (a + wL q)).2.1 → I1 70 j = upS (kA (kN q (rdN m T (kLo q) (kHi q) (a + wL q)).2.1) (kR q (rdN m T (kLo q) (kHi q) (a + wL q)).2.1)) j) : kdP G I L m T q a (some (.int 1)) G I1 L := by
  have e : rdK m T q a = (0, (rdN m T (kLo q) (kHi q) (a + wL q)).2.2.2, kN q (rdN m T (kLo q) (kHi q) (a + wL q)).2.1, kA (kN q (rdN m T (kLo q) (kHi q) (a + wL q)).2.1) (kR q (rdN m T (kLo q) (kHi q) (a + wL q)).2.1)) := by rw [rdK, if_pos h, if_pos hn]
  rw [kdP, e, decide_eq_true rfl]
  exact ⟨rfl, rfl, rfl, hf, fun _ => ⟨h8, h12, h70⟩, fun w => absurd rfl w⟩
theorem kd_big {G : amG} {I I1 : amI} {L : amL} {m q a : Nat} {T : Nat → Int32} (h : (rdN m T (kLo q) (kHi q) (a + wL q)).1 = 0) (hn : ¬ kN q (rdN m T (kLo q) (kHi q) (a + wL q)).2.1 ≤ 16) (hf : frR I I1) (h9 : I1 64 9 = nI (8 * (rdN m T (kLo q) (kHi q) (a + wL q)).2.2.1 + 2)) : kdP G I L m T q a (some (.int 0)) G I1 L := by
  have e : (rdK m T q a).1 = 8 * (rdN m T (kLo q) (kHi q) (a + wL q)).2.2.1 + 2 := by rw [rdK, if_pos h, if_neg hn]
  rw [kdP, e, decide_eq_false (by omega)]
  exact ⟨rfl, rfl, rfl, hf, fun w => absurd w (by omega), fun _ => h9⟩
theorem nI_and (a b : Nat) : nI a &&& nI b = nI (a &&& b) := b_ext fun i hi => by rw [b_and, bt_nI _ i hi, bt_nI _ i hi, bt_nI _ i hi, Nat.testBit_and]
/-- behind the word -/
theorem kd_at {I : amI} {m a w : Nat} {T : Nat → Int32} (hT : tpO I m T a) (hw : a + w ≤ m) {k : Int32} (hk : k = nI w) : tpO (setI I 64 (upd (I 64) 8 (I 64 8 + k))) m T (a + w) := hT.mv (frR_64 (Or.inl rfl)) (by rw [setI_s, upd_s, hT.2.2.2.1, hk, nI_add]) hw
set_option maxRecDepth 100000 in
set_option maxHeartbeats 4000000 in
theorem b_X12_readsFree_0 {z : amZ} {post : amP} {G : amG} {I : amI} {L : amL} (hz : Go z cX12_readsFree RX12 1 (some .boolean) 3 0 0 post) (hG : Lay G)  (h : ∃ (dq1 : Nat) (postq1 : amP), Nat.ble (dq1 + 1) 3 = true ∧ Mx (zL z) (zD z) (zB z) yX12_readsNumber cX12_readsNumber 5 (some .boolean) dq1 0 0 [.ref ((zB z).size + 64), .int 1, .int 16] G (setI I 64 (upd (I 64) 8 ((I 64 8) + (4 : Int32)))) L postq1 ∧ ∀ (roq1 : Option Value) (Gq1 : amG) (Iq1 : amI) (Lq1 : amL), postq1 roq1 Gq1 Iq1 Lq1 → ∃ (rq1 : Int32), roq1 = some (.int rq1) ∧ Lay Gq1 ∧ ((¬ rq1 = 0) → post (some (.int 1)) Gq1 (setI (setI Iq1 64 (upd (Iq1 64) 12 (Iq1 64 10))) 70 (wr (Iq1 70) 0 16 (m_al (Iq1 64 10)))) Lq1) ∧ ((rq1 = 0) → post (some (.int 0)) Gq1 Iq1 Lq1)) : Wx z 0 0 0 [(0, .ref ((zB z).size + 64))] [] G I L := by
  have hz1 := hz.1
  refine am_aload_n hz1 dX12_readsFree_0 0 rfl rfl ?_
  refine am_dup hz1 dX12_readsFree_1 rfl ?_
  refine am_getI hz1 fl_X12_133 (ln_64 hG) (lk_64 hG) rfl dX12_readsFree_2 ?_
  refine am_iconst (v := 4) hz1 dX12_readsFree_5 (by decide) ?_
  refine am_iadd hz1 dX12_readsFree_6 ?_
  refine am_putI hz1 fl_X12_133 (ln_64 hG) (lk_64 hG) rfl rfl (fun _ => rfl) dX12_readsFree_7 ?_
  refine am_aload_n hz1 dX12_readsFree_10 0 rfl rfl ?_
  refine am_iconst (v := 1) hz1 dX12_readsFree_11 (by decide) ?_
  refine am_bipush (v := 16) hz1 dX12_readsFree_12 (by decide) ?_
  obtain ⟨dq1, postq1, hdq1, hMq1, h⟩ := h
  refine am_callV hz1 cv_X12_173 [.int 1, .int 16] [] hMq1 (ln_64 hG) (lk_64 hG) rfl rfl (hz.fr hdq1) (hz.lo hdq1) (by rw [hz.2.1]; exact ⟨Nat.le_refl _, Nat.le_refl _⟩) (Nat.le_of_ble_eq_true rfl) dX12_readsFree_14 (fun roq1 Gq1 Iq1 Lq1 hpq1 => ?_)
  obtain ⟨rq1, rfl, hGq1, h⟩ := h roq1 Gq1 Iq1 Lq1 hpq1
  refine am_if_ne (tgt := 22) hz1 dX12_readsFree_17 (by decide) (fun c2 => ?_) (fun c2 => ?_)
  · replace h := h.1 c2
    refine am_aload_n hz1 dX12_readsFree_22 0 rfl rfl ?_
    refine am_aload_n hz1 dX12_readsFree_23 0 rfl rfl ?_
    refine am_getI hz1 fl_X12_167 (ln_64 hGq1) (lk_64 hGq1) rfl dX12_readsFree_24 ?_
    refine am_cVf hz cv_X12_176 [.int (Iq1 64 10)] [] (c_X12_alone hGq1 (Iq1 64 10) ) (ln_64 hGq1) (lk_64 hGq1) rfl rfl rfl ⟨Nat.le_refl _, Nat.le_refl _⟩ (Nat.le_of_ble_eq_true rfl) dX12_readsFree_27 ?_
    refine am_iconst (v := 1) hz1 dX12_readsFree_30 (by decide) ?_
    exact am_zreturn hz (by decide) dX12_readsFree_31 h
  · replace h := h.2 c2
    refine am_iconst (v := 0) hz1 dX12_readsFree_20 (by decide) ?_
    exact am_zreturn hz (by decide) dX12_readsFree_21 h
set_option maxRecDepth 100000 in
set_option maxHeartbeats 4000000 in
theorem c_X12_readsFree {l : Launch} {D : va_G} {B : Heap} {G : amG} {I : amI} {L : amL}  (hG : Lay G)   {m a : Nat} {T : Nat → Int32} (hT : tpO I m T a) (hw : a + wL 0 ≤ m) : Mx l D B yX12_readsFree cX12_readsFree 1 (some .boolean) 3 0 0 [.ref (B.size + 64)] G I L (kdP G I L m T 0 a) := by
  refine Mx.of (by decide) rfl rfl (fun z e1 e2 e3 hz => ?_)
  subst e1; subst e2; subst e3
  refine b_X12_readsFree_0 hz hG ?_
  have hA := kd_at hT hw (k := 4) rfl
  refine ⟨2, _, rfl, c_X12_readsNumber hG 1 16 hA rfl rfl (by decide) (by decide), fun ro G2 I2 L2 ⟨e1, e2, e3, e4, e5, e6⟩ => ⟨_, e1, by rw [e2]; exact hG, ?_⟩⟩
  have hf : frR I I2 := frR_t (frR_64 (Or.inl rfl)) e4.R
  rw [e2, e3, bI_ne, bI_eq, decide_eq_true_eq, decide_eq_false_iff_not]
  refine ⟨fun q => ?_, fun q => kd_no (q := 0) q hf (e6 q)⟩
  obtain ⟨c1, c2, c3⟩ := e5 q
  obtain ⟨v1, v2⟩ : 1 ≤ (rdN m T 1 16 (a + wL 0)).2.1 ∧ (rdN m T 1 16 (a + wL 0)).2.1 ≤ 16 := rd_v q
  generalize hv : (rdN m T 1 16 (a + wL 0)).2.1 = v at *
  have hv' : (rdN m T (kLo 0) (kHi 0) (a + wL 0)).2.1 = v := hv
  rw [c2]
  refine kd_yes (q := 0) q (by rw [hv']; exact v2) (frR_t hf (frR_t (frR_64 (by omega)) (frR_70 (Or.inl rfl)))) (by rw [setI_n (by decide), setI_s, upd_n (by decide)]; exact c1) (by rw [setI_n (by decide), setI_s, upd_s, hv']; rfl) (fun j hj => ?_)
  rw [hv'] at hj ⊢
  have hj' : j < v := hj
  rw [setI_s, wr_in (by omega), Nat.sub_zero, m_al, if_neg (nI_ge hj' (by omega)), kA_up (show kN 0 v ≤ 16 from v2) hj]
  exact (fR_z (R := kR 0 v) (fun i _ => rfl)).symm
set_option maxRecDepth 100000 in
set_option maxHeartbeats 4000000 in
theorem b_X12_readsChain_0 {z : amZ} {post : amP} {G : amG} {I : amI} {L : amL} (hz : Go z cX12_readsChain RX12 3 (some .boolean) 3 0 0 post) (hG : Lay G)  (h : ∃ (dq1 : Nat) (postq1 : amP), Nat.ble (dq1 + 1) 3 = true ∧ Mx (zL z) (zD z) (zB z) yX12_readsNumber cX12_readsNumber 5 (some .boolean) dq1 0 0 [.ref ((zB z).size + 64), .int 1, .int 16] G (setI I 64 (upd (I 64) 8 ((I 64 8) + (5 : Int32)))) L postq1 ∧ ∀ (roq1 : Option Value) (Gq1 : amG) (Iq1 : amI) (Lq1 : amL), postq1 roq1 Gq1 Iq1 Lq1 → ∃ (rq1 : Int32), roq1 = some (.int rq1) ∧ Lay Gq1 ∧ ((¬ rq1 = 0) → Wx z 0 0 32 [(0, .ref ((zB z).size + 64)), (1, .int 0)] [] Gq1 (setI (setI Iq1 64 (upd (Iq1 64) 12 (Iq1 64 10))) 70 (wr (Iq1 70) 0 16 (m_al (Iq1 64 10)))) Lq1) ∧ ((rq1 = 0) → post (some (.int 0)) Gq1 Iq1 Lq1)) : Wx z 0 0 0 [(0, .ref ((zB z).size + 64))] [] G I L := by
  have hz1 := hz.1
  refine am_aload_n hz1 dX12_readsChain_0 0 rfl rfl ?_
  refine am_dup hz1 dX12_readsChain_1 rfl ?_
  refine am_getI hz1 fl_X12_133 (ln_64 hG) (lk_64 hG) rfl dX12_readsChain_2 ?_
  refine am_iconst (v := 5) hz1 dX12_readsChain_5 (by decide) ?_
  refine am_iadd hz1 dX12_readsChain_6 ?_
  refine am_putI hz1 fl_X12_133 (ln_64 hG) (lk_64 hG) rfl rfl (fun _ => rfl) dX12_readsChain_7 ?_
  refine am_aload_n hz1 dX12_readsChain_10 0 rfl rfl ?_
  refine am_iconst (v := 1) hz1 dX12_readsChain_11 (by decide) ?_
  refine am_bipush (v := 16) hz1 dX12_readsChain_12 (by decide) ?_
  obtain ⟨dq1, postq1, hdq1, hMq1, h⟩ := h
  refine am_callV hz1 cv_X12_173 [.int 1, .int 16] [] hMq1 (ln_64 hG) (lk_64 hG) rfl rfl (hz.fr hdq1) (hz.lo hdq1) (by rw [hz.2.1]; exact ⟨Nat.le_refl _, Nat.le_refl _⟩) (Nat.le_of_ble_eq_true rfl) dX12_readsChain_14 (fun roq1 Gq1 Iq1 Lq1 hpq1 => ?_)
  obtain ⟨rq1, rfl, hGq1, h⟩ := h roq1 Gq1 Iq1 Lq1 hpq1
  refine am_if_ne (tgt := 22) hz1 dX12_readsChain_17 (by decide) (fun c2 => ?_) (fun c2 => ?_)
  · replace h := h.1 c2
    refine am_aload_n hz1 dX12_readsChain_22 0 rfl rfl ?_
    refine am_aload_n hz1 dX12_readsChain_23 0 rfl rfl ?_
    refine am_getI hz1 fl_X12_167 (ln_64 hGq1) (lk_64 hGq1) rfl dX12_readsChain_24 ?_
    refine am_cVf hz cv_X12_176 [.int (Iq1 64 10)] [] (c_X12_alone hGq1 (Iq1 64 10) ) (ln_64 hGq1) (lk_64 hGq1) rfl rfl rfl ⟨Nat.le_refl _, Nat.le_refl _⟩ (Nat.le_of_ble_eq_true rfl) dX12_readsChain_27 ?_
    refine am_iconst (v := 0) hz1 dX12_readsChain_30 (by decide) ?_
    refine am_istore_n (lv' := [(1, .int 0), (0, .ref ((zB z).size + 64))]) hz1 dX12_readsChain_31 rfl rfl rfl ?_
    exact am_sub (lv' := [(0, .ref ((zB z).size + 64)), (1, .int 0)]) [1, 0] rfl h
  · replace h := h.2 c2
    refine am_iconst (v := 0) hz1 dX12_readsChain_20 (by decide) ?_
    exact am_zreturn hz (by decide) dX12_readsChain_21 h
set_option maxRecDepth 100000 in
set_option maxHeartbeats 4000000 in
theorem b_X12_readsChain_32 {z : amZ} {post : amP} {G : amG} {I : amI} {L : amL} (hz : Go z cX12_readsChain RX12 3 (some .boolean) 3 0 0 post) (hG : Lay G) {v1 : Int32} (h : (((I 64 12) ≤ v1) → post (some (.int 1)) G I L) ∧ ((¬ (I 64 12) ≤ v1) → Wx z 0 0 42 [(0, .ref ((zB z).size + 64)), (1, .int v1), (2, .int v1)] [] G I L)) : Wx z 0 0 32 [(0, .ref ((zB z).size + 64)), (1, .int v1)] [] G I L := by
  have hz1 := hz.1
  refine am_iload_n hz1 dX12_readsChain_32 1 rfl rfl ?_
  refine am_aload_n hz1 dX12_readsChain_33 0 rfl rfl ?_
  refine am_getI hz1 fl_X12_170 (ln_64 hG) (lk_64 hG) rfl dX12_readsChain_34 ?_
  refine am_icmp_ge (tgt := 74) hz1 dX12_readsChain_37 (by decide) (fun c1 => ?_) (fun c1 => ?_)
  · replace h := h.1 c1
    refine am_iconst (v := 1) hz1 dX12_readsChain_74 (by decide) ?_
    exact am_zreturn hz (by decide) dX12_readsChain_75 h
  · replace h := h.2 c1
    refine am_iload_n hz1 dX12_readsChain_40 1 rfl rfl ?_
    refine am_istore_n (lv' := [(2, .int v1), (0, .ref ((zB z).size + 64)), (1, .int v1)]) hz1 dX12_readsChain_41 rfl rfl rfl ?_
    exact am_sub (lv' := [(0, .ref ((zB z).size + 64)), (1, .int v1), (2, .int v1)]) [1, 2, 0] rfl h
set_option maxRecDepth 100000 in
set_option maxHeartbeats 4000000 in
theorem b_X12_readsChain_42 {z : amZ} {post : amP} {G : amG} {I : amI} {L : amL} (hz : Go z cX12_readsChain RX12 3 (some .boolean) 3 0 0 post) (hG : Lay G) {v1 : Int32} {v2 : Int32} (h : (((I 64 12) ≤ v2) → Wx z 0 0 32 [(0, .ref ((zB z).size + 64)), (1, .int (v1 + 1))] [] G I L) ∧ ((¬ (I 64 12) ≤ v2) → vp_in v1 16 ∧ vp_in v1 16 ∧ Wx z 0 0 42 [(0, .ref ((zB z).size + 64)), (1, .int v1), (2, .int (v2 + 1))] [] G (setI I 70 (upd (I 70) v1.toNatClampNeg ((I 70 v1.toNatClampNeg) ||| ((1 : Int32) <<< (v2 &&& 31))))) L)) : Wx z 0 0 42 [(0, .ref ((zB z).size + 64)), (1, .int v1), (2, .int v2)] [] G I L := by
  have hz1 := hz.1
  refine am_iload_n hz1 dX12_readsChain_42 2 rfl rfl ?_
  refine am_aload_n hz1 dX12_readsChain_43 0 rfl rfl ?_
  refine am_getI hz1 fl_X12_170 (ln_64 hG) (lk_64 hG) rfl dX12_readsChain_44 ?_
  refine am_icmp_ge (tgt := 68) hz1 dX12_readsChain_47 (by decide) (fun c1 => ?_) (fun c1 => ?_)
  · replace h := h.1 c1
    refine am_iinc (v := v1 + 1) (lv' := [(1, .int (v1 + 1)), (0, .ref ((zB z).size + 64)), (2, .int v2)]) hz1 dX12_readsChain_68 1 rfl rfl rfl rfl ?_
    refine am_goto (tgt := 32) hz1 dX12_readsChain_71 (by decide) ?_
    exact am_sub (lv' := [(0, .ref ((zB z).size + 64)), (1, .int (v1 + 1))]) [1, 0] rfl h
  · replace h := h.2 c1
    refine am_aload_n hz1 dX12_readsChain_50 0 rfl rfl ?_
    refine am_getR hz1 fl_X12_29 (ln_64 hG) (lk_64 hG) (lr_64_13 hG) rfl dX12_readsChain_51 ?_
    refine am_iload_n hz1 dX12_readsChain_54 1 rfl rfl ?_
    refine am_dup2 hz1 dX12_readsChain_55 rfl rfl ?_
    obtain ⟨g2, h⟩ := h
    refine am_iald hz1 (ln_70 hG) (lk_70 hG) (by rw [(ll_70 hG)]; exact g2) dX12_readsChain_56 ?_
    refine am_iconst (v := 1) hz1 dX12_readsChain_57 (by decide) ?_
    refine am_iload_n hz1 dX12_readsChain_58 2 rfl rfl ?_
    refine am_ishl hz1 dX12_readsChain_59 ?_
    refine am_ior hz1 dX12_readsChain_60 ?_
    obtain ⟨g3, h⟩ := h
    refine am_iast hz1 (ln_70 hG) (lk_70 hG) (by rw [(ll_70 hG)]; exact g3) dX12_readsChain_61 ?_
    refine am_iinc (v := v2 + 1) (lv' := [(2, .int (v2 + 1)), (0, .ref ((zB z).size + 64)), (1, .int v1)]) hz1 dX12_readsChain_62 2 rfl rfl rfl rfl ?_
    refine am_goto (tgt := 42) hz1 dX12_readsChain_65 (by decide) ?_
    exact am_sub (lv' := [(0, .ref ((zB z).size + 64)), (1, .int v1), (2, .int (v2 + 1))]) [1, 2, 0] rfl h
set_option maxRecDepth 100000 in
set_option maxHeartbeats 4000000 in
theorem c_X12_readsChain {l : Launch} {D : va_G} {B : Heap} {G : amG} {I : amI} {L : amL}  (hG : Lay G)   {m a : Nat} {T : Nat → Int32} (hT : tpO I m T a) (hw : a + wL 1 ≤ m) : Mx l D B yX12_readsChain cX12_readsChain 3 (some .boolean) 3 0 0 [.ref (B.size + 64)] G I L (kdP G I L m T 1 a) := by
  refine Mx.of (by decide) rfl rfl (fun z e1 e2 e3 hz => ?_)
  subst e1; subst e2; subst e3
  refine b_X12_readsChain_0 hz hG ?_
  have hA := kd_at hT hw (k := 5) rfl
  refine ⟨2, _, rfl, c_X12_readsNumber hG 1 16 hA rfl rfl (by decide) (by decide), fun ro G2 I2 L2 ⟨e1, e2, e3, e4, e5, e6⟩ => ⟨_, e1, by rw [e2]; exact hG, ?_⟩⟩
  have hf : frR I I2 := frR_t (frR_64 (Or.inl rfl)) e4.R
  rw [e2, e3, bI_ne, bI_eq, decide_eq_true_eq, decide_eq_false_iff_not]
  refine ⟨fun q => ?_, fun q => kd_no (q := 1) q hf (e6 q)⟩
  obtain ⟨c1, c2, c3⟩ := e5 q
  obtain ⟨v1, v2⟩ : 1 ≤ (rdN m T 1 16 (a + wL 1)).2.1 ∧ (rdN m T 1 16 (a + wL 1)).2.1 ≤ 16 := rd_v q
  generalize hv : (rdN m T 1 16 (a + wL 1)).2.1 = v at *
  rw [c2]
  have main : ∀ f : Nat → Int32, tSt (kR 1 v) v 0 0 f → Wx z 0 0 32 [(0, .ref ((zB z).size + 64)), (1, .int (nI 0))] [] G (wi I2 (nI v) f) L := by
    refine for_up (P := fun i => ∀ f : Nat → Int32, tSt (kR 1 v) v i 0 f → Wx z 0 0 32 [(0, .ref ((zB z).size + 64)), (1, .int (nI i))] [] G (wi I2 (nI v) f) L) (n := v) ?_ ?_ (Nat.zero_le _)
    · intro f hf2
      refine b_X12_readsChain_32 hz hG ⟨fun _ => ?_, fun w => absurd (by rw [wi_12]; exact nI_le (Nat.le_refl _) (by omega)) w⟩
      exact kd_yes (q := 1) q (by rw [show (rdN m T (kLo 1) (kHi 1) (a + wL 1)).2.1 = v from hv]; exact v2) (frR_t hf (frR_t (frR_64 (by omega)) (frR_70 (Or.inl rfl)))) (by rw [wi, setI_n (by decide), setI_s, upd_n (by decide)]; exact c1) (by rw [wi_12, show (rdN m T (kLo 1) (kHi 1) (a + wL 1)).2.1 = v from hv]; rfl) (fun j hj => by rw [wi_70]; rw [show (rdN m T (kLo 1) (kHi 1) (a + wL 1)).2.1 = v from hv] at hj ⊢; exact tSt_e hf2 v2 hj)
    · intro i hi ih f hf2
      refine b_X12_readsChain_32 hz hG ⟨fun w => absurd w (by rw [wi_12]; exact nI_ge hi (by omega)), fun _ => ?_⟩
      have inner : ∀ f : Nat → Int32, tSt (kR 1 v) v i (i + 0) f → Wx z 0 0 42 [(0, .ref ((zB z).size + 64)), (1, .int (nI i)), (2, .int (nI (i + 0)))] [] G (wi I2 (nI v) f) L := by
        refine for_up (P := fun b => ∀ f : Nat → Int32, tSt (kR 1 v) v i (i + b) f → Wx z 0 0 42 [(0, .ref ((zB z).size + 64)), (1, .int (nI i)), (2, .int (nI (i + b)))] [] G (wi I2 (nI v) f) L) (n := v - i) ?_ ?_ (Nat.zero_le _)
        · intro f hf3
          rw [show i + (v - i) = v by omega] at hf3 ⊢
          refine b_X12_readsChain_42 hz hG ⟨fun _ => ?_, fun w => absurd (by rw [wi_12]; exact nI_le (Nat.le_refl _) (by omega)) w⟩
          rw [nI_1]
          exact ih f (tSt_n hf3 hi)
        · intro b hb bh f hf3
          refine b_X12_readsChain_42 hz hG ⟨fun w => absurd w (by rw [wi_12]; exact nI_ge (by omega) (by omega)), fun _ => ?_⟩
          rw [wi_70, cl_nI (n := i) (by omega), nI_1, wi, setI_ss]
          refine ⟨in_nI (by omega) (by decide), in_nI (by omega) (by decide), bh _ (tSt_t hf3 hi ?_)⟩
          exact decide_eq_true (show i ≤ i + b by omega)
      exact inner f (tSt_d hf2 (fun j hj => decide_eq_false (by omega)))
  exact main _ (tSt_0 v2)
set_option maxRecDepth 100000 in
set_option maxHeartbeats 4000000 in
theorem b_X12_readsCube_0 {z : amZ} {post : amP} {G : amG} {I : amI} {L : amL} (hz : Go z cX12_readsCube RX12 3 (some .boolean) 3 0 0 post) (hG : Lay G)  (h : ∃ (dq1 : Nat) (postq1 : amP), Nat.ble (dq1 + 1) 3 = true ∧ Mx (zL z) (zD z) (zB z) yX12_readsNumber cX12_readsNumber 5 (some .boolean) dq1 0 0 [.ref ((zB z).size + 64), .int 0, .int 4] G (setI I 64 (upd (I 64) 8 ((I 64 8) + (4 : Int32)))) L postq1 ∧ ∀ (roq1 : Option Value) (Gq1 : amG) (Iq1 : amI) (Lq1 : amL), postq1 roq1 Gq1 Iq1 Lq1 → ∃ (rq1 : Int32), roq1 = some (.int rq1) ∧ Lay Gq1 ∧ ((¬ rq1 = 0) → Wx z 0 0 33 [(0, .ref ((zB z).size + 64)), (1, .int 0)] [] Gq1 (setI (setI Iq1 64 (upd (Iq1 64) 12 ((1 : Int32) <<< ((Iq1 64 10) &&& 31)))) 70 (wr (Iq1 70) 0 16 (m_al ((1 : Int32) <<< ((Iq1 64 10) &&& 31))))) Lq1) ∧ ((rq1 = 0) → post (some (.int 0)) Gq1 Iq1 Lq1)) : Wx z 0 0 0 [(0, .ref ((zB z).size + 64))] [] G I L := by
  have hz1 := hz.1
  refine am_aload_n hz1 dX12_readsCube_0 0 rfl rfl ?_
  refine am_dup hz1 dX12_readsCube_1 rfl ?_
  refine am_getI hz1 fl_X12_133 (ln_64 hG) (lk_64 hG) rfl dX12_readsCube_2 ?_
  refine am_iconst (v := 4) hz1 dX12_readsCube_5 (by decide) ?_
  refine am_iadd hz1 dX12_readsCube_6 ?_
  refine am_putI hz1 fl_X12_133 (ln_64 hG) (lk_64 hG) rfl rfl (fun _ => rfl) dX12_readsCube_7 ?_
  refine am_aload_n hz1 dX12_readsCube_10 0 rfl rfl ?_
  refine am_iconst (v := 0) hz1 dX12_readsCube_11 (by decide) ?_
  refine am_iconst (v := 4) hz1 dX12_readsCube_12 (by decide) ?_
  obtain ⟨dq1, postq1, hdq1, hMq1, h⟩ := h
  refine am_callV hz1 cv_X12_173 [.int 0, .int 4] [] hMq1 (ln_64 hG) (lk_64 hG) rfl rfl (hz.fr hdq1) (hz.lo hdq1) (by rw [hz.2.1]; exact ⟨Nat.le_refl _, Nat.le_refl _⟩) (Nat.le_of_ble_eq_true rfl) dX12_readsCube_13 (fun roq1 Gq1 Iq1 Lq1 hpq1 => ?_)
  obtain ⟨rq1, rfl, hGq1, h⟩ := h roq1 Gq1 Iq1 Lq1 hpq1
  refine am_if_ne (tgt := 21) hz1 dX12_readsCube_16 (by decide) (fun c2 => ?_) (fun c2 => ?_)
  · replace h := h.1 c2
    refine am_aload_n hz1 dX12_readsCube_21 0 rfl rfl ?_
    refine am_iconst (v := 1) hz1 dX12_readsCube_22 (by decide) ?_
    refine am_aload_n hz1 dX12_readsCube_23 0 rfl rfl ?_
    refine am_getI hz1 fl_X12_167 (ln_64 hGq1) (lk_64 hGq1) rfl dX12_readsCube_24 ?_
    refine am_ishl hz1 dX12_readsCube_27 ?_
    refine am_cVf hz cv_X12_176 [.int ((1 : Int32) <<< ((Iq1 64 10) &&& 31))] [] (c_X12_alone hGq1 ((1 : Int32) <<< ((Iq1 64 10) &&& 31)) ) (ln_64 hGq1) (lk_64 hGq1) rfl rfl rfl ⟨Nat.le_refl _, Nat.le_refl _⟩ (Nat.le_of_ble_eq_true rfl) dX12_readsCube_28 ?_
    refine am_iconst (v := 0) hz1 dX12_readsCube_31 (by decide) ?_
    refine am_istore_n (lv' := [(1, .int 0), (0, .ref ((zB z).size + 64))]) hz1 dX12_readsCube_32 rfl rfl rfl ?_
    exact am_sub (lv' := [(0, .ref ((zB z).size + 64)), (1, .int 0)]) [1, 0] rfl h
  · replace h := h.2 c2
    refine am_iconst (v := 0) hz1 dX12_readsCube_19 (by decide) ?_
    exact am_zreturn hz (by decide) dX12_readsCube_20 h
set_option maxRecDepth 100000 in
set_option maxHeartbeats 4000000 in
theorem b_X12_readsCube_33 {z : amZ} {post : amP} {G : amG} {I : amI} {L : amL} (hz : Go z cX12_readsCube RX12 3 (some .boolean) 3 0 0 post) (hG : Lay G) {v1 : Int32} (h : (((I 64 12) ≤ v1) → post (some (.int 1)) G I L) ∧ ((¬ (I 64 12) ≤ v1) → Wx z 0 0 43 [(0, .ref ((zB z).size + 64)), (1, .int v1), (2, .int 0)] [] G I L)) : Wx z 0 0 33 [(0, .ref ((zB z).size + 64)), (1, .int v1)] [] G I L := by
  have hz1 := hz.1
  refine am_iload_n hz1 dX12_readsCube_33 1 rfl rfl ?_
  refine am_aload_n hz1 dX12_readsCube_34 0 rfl rfl ?_
  refine am_getI hz1 fl_X12_170 (ln_64 hG) (lk_64 hG) rfl dX12_readsCube_35 ?_
  refine am_icmp_ge (tgt := 82) hz1 dX12_readsCube_38 (by decide) (fun c1 => ?_) (fun c1 => ?_)
  · replace h := h.1 c1
    refine am_iconst (v := 1) hz1 dX12_readsCube_82 (by decide) ?_
    exact am_zreturn hz (by decide) dX12_readsCube_83 h
  · replace h := h.2 c1
    refine am_iconst (v := 0) hz1 dX12_readsCube_41 (by decide) ?_
    refine am_istore_n (lv' := [(2, .int 0), (0, .ref ((zB z).size + 64)), (1, .int v1)]) hz1 dX12_readsCube_42 rfl rfl rfl ?_
    exact am_sub (lv' := [(0, .ref ((zB z).size + 64)), (1, .int v1), (2, .int 0)]) [1, 2, 0] rfl h
set_option maxRecDepth 100000 in
set_option maxHeartbeats 4000000 in
theorem b_X12_readsCube_43 {z : amZ} {post : amP} {G : amG} {I : amI} {L : amL} (hz : Go z cX12_readsCube RX12 3 (some .boolean) 3 0 0 post) (hG : Lay G) {v1 : Int32} {v2 : Int32} (h : (((I 64 12) ≤ v2) → Wx z 0 0 33 [(0, .ref ((zB z).size + 64)), (1, .int (v1 + 1))] [] G I L) ∧ ((¬ (I 64 12) ≤ v2) → ((¬ (v1 &&& v2) = v1) → Wx z 0 0 43 [(0, .ref ((zB z).size + 64)), (1, .int v1), (2, .int (v2 + 1))] [] G I L) ∧ (((v1 &&& v2) = v1) → vp_in v1 16 ∧ vp_in v1 16 ∧ Wx z 0 0 43 [(0, .ref ((zB z).size + 64)), (1, .int v1), (2, .int (v2 + 1))] [] G (setI I 70 (upd (I 70) v1.toNatClampNeg ((I 70 v1.toNatClampNeg) ||| ((1 : Int32) <<< (v2 &&& 31))))) L))) : Wx z 0 0 43 [(0, .ref ((zB z).size + 64)), (1, .int v1), (2, .int v2)] [] G I L := by
  have hz1 := hz.1
  refine am_iload_n hz1 dX12_readsCube_43 2 rfl rfl ?_
  refine am_aload_n hz1 dX12_readsCube_44 0 rfl rfl ?_
  refine am_getI hz1 fl_X12_170 (ln_64 hG) (lk_64 hG) rfl dX12_readsCube_45 ?_
  refine am_icmp_ge (tgt := 76) hz1 dX12_readsCube_48 (by decide) (fun c1 => ?_) (fun c1 => ?_)
  · replace h := h.1 c1
    refine am_iinc (v := v1 + 1) (lv' := [(1, .int (v1 + 1)), (0, .ref ((zB z).size + 64)), (2, .int v2)]) hz1 dX12_readsCube_76 1 rfl rfl rfl rfl ?_
    refine am_goto (tgt := 33) hz1 dX12_readsCube_79 (by decide) ?_
    exact am_sub (lv' := [(0, .ref ((zB z).size + 64)), (1, .int (v1 + 1))]) [1, 0] rfl h
  · replace h := h.2 c1
    refine am_iload_n hz1 dX12_readsCube_51 1 rfl rfl ?_
    refine am_iload_n hz1 dX12_readsCube_52 2 rfl rfl ?_
    refine am_iand hz1 dX12_readsCube_53 ?_
    refine am_iload_n hz1 dX12_readsCube_54 1 rfl rfl ?_
    refine am_icmp_ne (tgt := 70) hz1 dX12_readsCube_55 (by decide) (fun c2 => ?_) (fun c2 => ?_)
    · replace h := h.1 c2
      refine am_iinc (v := v2 + 1) (lv' := [(2, .int (v2 + 1)), (0, .ref ((zB z).size + 64)), (1, .int v1)]) hz1 dX12_readsCube_70 2 rfl rfl rfl rfl ?_
      refine am_goto (tgt := 43) hz1 dX12_readsCube_73 (by decide) ?_
      exact am_sub (lv' := [(0, .ref ((zB z).size + 64)), (1, .int v1), (2, .int (v2 + 1))]) [1, 2, 0] rfl h
    · replace h := h.2 c2
      refine am_aload_n hz1 dX12_readsCube_58 0 rfl rfl ?_
      refine am_getR hz1 fl_X12_29 (ln_64 hG) (lk_64 hG) (lr_64_13 hG) rfl dX12_readsCube_59 ?_
      refine am_iload_n hz1 dX12_readsCube_62 1 rfl rfl ?_
      refine am_dup2 hz1 dX12_readsCube_63 rfl rfl ?_
      obtain ⟨g3, h⟩ := h
      refine am_iald hz1 (ln_70 hG) (lk_70 hG) (by rw [(ll_70 hG)]; exact g3) dX12_readsCube_64 ?_
      refine am_iconst (v := 1) hz1 dX12_readsCube_65 (by decide) ?_
      refine am_iload_n hz1 dX12_readsCube_66 2 rfl rfl ?_
      refine am_ishl hz1 dX12_readsCube_67 ?_
      refine am_ior hz1 dX12_readsCube_68 ?_
      obtain ⟨g4, h⟩ := h
      refine am_iast hz1 (ln_70 hG) (lk_70 hG) (by rw [(ll_70 hG)]; exact g4) dX12_readsCube_69 ?_
      refine am_iinc (v := v2 + 1) (lv' := [(2, .int (v2 + 1)), (0, .ref ((zB z).size + 64)), (1, .int v1)]) hz1 dX12_readsCube_70 2 rfl rfl rfl rfl ?_
      refine am_goto (tgt := 43) hz1 dX12_readsCube_73 (by decide) ?_
      exact am_sub (lv' := [(0, .ref ((zB z).size + 64)), (1, .int v1), (2, .int (v2 + 1))]) [1, 2, 0] rfl h
set_option maxRecDepth 100000 in
set_option maxHeartbeats 4000000 in
theorem c_X12_readsCube {l : Launch} {D : va_G} {B : Heap} {G : amG} {I : amI} {L : amL}  (hG : Lay G)   {m a : Nat} {T : Nat → Int32} (hT : tpO I m T a) (hw : a + wL 2 ≤ m) : Mx l D B yX12_readsCube cX12_readsCube 3 (some .boolean) 3 0 0 [.ref (B.size + 64)] G I L (kdP G I L m T 2 a) := by
  refine Mx.of (by decide) rfl rfl (fun z e1 e2 e3 hz => ?_)
  subst e1; subst e2; subst e3
  refine b_X12_readsCube_0 hz hG ?_
  have hA := kd_at hT hw (k := 4) rfl
  refine ⟨2, _, rfl, c_X12_readsNumber hG 0 4 hA rfl rfl (by decide) (by decide), fun ro G2 I2 L2 ⟨e1, e2, e3, e4, e5, e6⟩ => ⟨_, e1, by rw [e2]; exact hG, ?_⟩⟩
  have hf : frR I I2 := frR_t (frR_64 (Or.inl rfl)) e4.R
  rw [e2, e3, bI_ne, bI_eq, decide_eq_true_eq, decide_eq_false_iff_not]
  refine ⟨fun q => ?_, fun q => kd_no (q := 2) q hf (e6 q)⟩
  obtain ⟨c1, c2, c3⟩ := e5 q
  obtain ⟨v1, v2⟩ : 0 ≤ (rdN m T 0 4 (a + wL 2)).2.1 ∧ (rdN m T 0 4 (a + wL 2)).2.1 ≤ 4 := rd_v q
  generalize hv : (rdN m T 0 4 (a + wL 2)).2.1 = v at *
  have hp16 : 2 ^ v ≤ 16 := Nat.pow_le_pow_right (n := 2) (by decide) v2
  have hsh : (1 : Int32) <<< (nI v &&& 31) = nI (2 ^ v) := by
    have : ∀ v, v ≤ 4 → (1 : Int32) <<< (nI v &&& 31) = nI (2 ^ v) := by decide +kernel
    exact this v v2
  rw [c2, hsh]
  have main : ∀ f : Nat → Int32, tSt (kR 2 v) (2 ^ v) 0 0 f → Wx z 0 0 33 [(0, .ref ((zB z).size + 64)), (1, .int (nI 0))] [] G (wi I2 (nI (2 ^ v)) f) L := by
    refine for_up (P := fun i => ∀ f : Nat → Int32, tSt (kR 2 v) (2 ^ v) i 0 f → Wx z 0 0 33 [(0, .ref ((zB z).size + 64)), (1, .int (nI i))] [] G (wi I2 (nI (2 ^ v)) f) L) (n := 2 ^ v) ?_ ?_ (Nat.zero_le _)
    · intro f hf2
      refine b_X12_readsCube_33 hz hG ⟨fun _ => ?_, fun w => absurd (by rw [wi_12]; exact nI_le (Nat.le_refl _) (by omega)) w⟩
      exact kd_yes (q := 2) q (by rw [show (rdN m T (kLo 2) (kHi 2) (a + wL 2)).2.1 = v from hv]; exact hp16) (frR_t hf (frR_t (frR_64 (by omega)) (frR_70 (Or.inl rfl)))) (by rw [wi, setI_n (by decide), setI_s, upd_n (by decide)]; exact c1) (by rw [wi_12, show (rdN m T (kLo 2) (kHi 2) (a + wL 2)).2.1 = v from hv]; rfl) (fun j hj => by rw [wi_70]; rw [show (rdN m T (kLo 2) (kHi 2) (a + wL 2)).2.1 = v from hv] at hj ⊢; exact tSt_e hf2 hp16 hj)
    · intro i hi ih f hf2
      refine b_X12_readsCube_33 hz hG ⟨fun w => absurd w (by rw [wi_12]; exact nI_ge hi (by omega)), fun _ => ?_⟩
      have inner : ∀ f : Nat → Int32, tSt (kR 2 v) (2 ^ v) i 0 f → Wx z 0 0 43 [(0, .ref ((zB z).size + 64)), (1, .int (nI i)), (2, .int (nI 0))] [] G (wi I2 (nI (2 ^ v)) f) L := by
        refine for_up (P := fun b => ∀ f : Nat → Int32, tSt (kR 2 v) (2 ^ v) i b f → Wx z 0 0 43 [(0, .ref ((zB z).size + 64)), (1, .int (nI i)), (2, .int (nI b))] [] G (wi I2 (nI (2 ^ v)) f) L) (n := 2 ^ v) ?_ ?_ (Nat.zero_le _)
        · intro f hf3
          refine b_X12_readsCube_43 hz hG ⟨fun _ => ?_, fun w => absurd (by rw [wi_12]; exact nI_le (Nat.le_refl _) (by omega)) w⟩
          rw [nI_1]
          exact ih f (tSt_n hf3 hi)
        · intro b hb bh f hf3
          refine b_X12_readsCube_43 hz hG ⟨fun w => absurd w (by rw [wi_12]; exact nI_ge (by omega) (by omega)), fun _ => ?_⟩
          rw [wi_70, cl_nI (n := i) (by omega), nI_1, nI_and]
          have hab : i &&& b < 2 ^ 31 := Nat.lt_of_le_of_lt Nat.and_le_left (by omega)
          refine ⟨fun w => bh _ (tSt_f hf3 (decide_eq_false fun e => w (by rw [e]))), fun w => ?_⟩
          rw [wi, setI_ss]
          exact ⟨in_nI (by omega) (by decide), in_nI (by omega) (by decide), bh _ (tSt_t hf3 hi (decide_eq_true ((nI_eq hab (by omega)).mp w)))⟩
      exact inner f hf2
  exact main _ (tSt_0 hp16)
