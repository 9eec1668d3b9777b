/-! THE CLASS STANDS FOR s -/
theorem in2 {v : Int32} (h : vp_in v 2) : v = 0 ∨ v = 1 := by
  obtain ⟨j, h2, rfl⟩ := vp_in_of h (by decide)
  rcases Nat.lt_or_ge j 1 with e | e
  · left; rw [show j = 0 by omega]; rfl
  · right; rw [show j = 1 by omega]; rfl
def kpB (I : amI) (a : Int32) : Bool := elB 2 a && bt (I 0 14) a.toNatClampNeg
/-- a state that can be come back to: its five cells -/
def HS (G : amG) (h : Nat) : Prop := 85 ≤ h ∧ h + 5 ≤ gN G ∧ gK G h = 8 ∧ gK G (h + 1) = 50 ∧ gK G (h + 2) = 52 ∧ gK G (h + 3) = 52 ∧ gK G (h + 4) = 50 ∧ gL G (h + 1) = 16 ∧ gL G (h + 2) = 1024 ∧ gL G (h + 3) = 16 ∧ gL G (h + 4) = 16 ∧ gR G h 2 = some (h + 1) ∧ gR G h 3 = some (h + 2) ∧ gR G h 4 = some (h + 3) ∧ gR G h 5 = some (h + 4)
def HR (I : amI) (L : amL) (h : Nat) (r : Row) : Prop := I h 0 = nI (rN r) ∧ I h 1 = rE r ∧ (∀ x, x < 16 → I (h + 1) x = rA r x) ∧ (∀ k, k < 1024 → L (h + 2) k = rF r k) ∧ (∀ a, a < 16 → L (h + 3) a = rD r a) ∧ ∀ x, x < 16 → I (h + 4) x = rP r x
def shC (I : amI) (o j : Nat) (h : Shf) : Prop := (h.1 = 0 ∧ bt (I 0 14) j = false) ∨ (OI I o h.1 h.2 ∧ bt (I 0 14) j = true)
def CQ (s : St) (I : amI) (L : amL) : Prop :=
  OI I 3 (rN (sC s)) (rA (sC s)) ∧ (∀ k, k < 1024 → L 36 k = rF (sC s) k) ∧ (∀ a, a < 16 → L 40 a = rD (sC s) a) ∧ (∀ x, x < 16 → I 42 x = rP (sC s) x) ∧ I 0 15 = sE s ∧ shC I 20 0 (s0 s) ∧ shC I 27 1 (s1 s) ∧ (∀ i, 2 ≤ i → i < 32 → bt (I 0 14) i = false) ∧ I 1 1 = nI (sT s).1 ∧ ∀ i, i < (sT s).1 → I 2 i &&& 255 = (sT s).2 i
/-- what is reckoned once and kept -/
def CK (s : St) (I : amI) (L : amL) : Prop := (I 46 12 = 0 ∨ LK I (rN (sC s)) (rA (sC s))) ∧ (I 56 5 = 0 ∨ DK L (rN (sC s)) (rA (sC s))) ∧ (I 56 6 = 0 ∨ L 56 7 = eF (rN (sC s)) (rA (sC s)) (rN (sC s)) (fun _ => true))
def CR (H : Nat × (Nat → Row)) (G : amG) (I : amI) (L : amL) : Prop :=
  ∃ nx, nx < 8 ∧ I 61 1 = nI nx ∧ I 61 2 = nI H.1 ∧ H.1 ≤ 8 ∧ (∀ i h, i < 8 → gR G 62 i = some h → HS G h) ∧ (∀ i j h k, i < 8 → j < 8 → i ≠ j → gR G 62 i = some h → gR G 62 j = some k → h + 5 ≤ k ∨ k + 5 ≤ h) ∧ ∀ j, j < H.1 → ∃ h, gR G 62 ((nx + 8 - H.1 + j) % 8) = some h ∧ HR I L h (H.2 j)
def cwG (G : amG) : Prop := ∃ wp len, WY G wp len ∧ wO len ∧ (wp = 60 ∨ 85 ≤ wp) ∧ ∀ i h, i < 8 → gR G 62 i = some h → wp < h ∨ h + 5 ≤ wp
def CO (s : St) (G : amG) (I : amI) (L : amL) : Prop := Lay G ∧ CQ s I L ∧ CK s I L ∧ CR (sH s) G I L ∧ cwG G
def frK (I : amI) (L : amL) (I1 : amI) (L1 : amL) : Prop := ∀ p, 64 ≤ p → p < 85 → I1 p = I p ∧ L1 p = L p
theorem frK_r {I : amI} {L : amL} : frK I L I L := fun _ _ _ => ⟨rfl, rfl⟩
theorem frK_t {I I1 I2 : amI} {L L1 L2 : amL} (h : frK I L I1 L1) (h2 : frK I1 L1 I2 L2) : frK I L I2 L2 := fun p a b => ⟨by rw [(h2 p a b).1, (h p a b).1], by rw [(h2 p a b).2, (h p a b).2]⟩
/-- what questions may change -/
def qI (I I1 : amI) : Prop := ∀ q, q ≠ 34 → (q < 46 ∨ 55 < q) → q ≠ 56 → q ≠ 59 → I1 q = I q
def qL (L L1 : amL) : Prop := ∀ q, q ≠ 34 → q ≠ 44 → q ≠ 45 → q ≠ 56 → q ≠ 57 → q ≠ 58 → q ≠ 63 → L1 q = L q
theorem qI_r {I : amI} : qI I I := fun _ _ _ _ _ => rfl
theorem qL_r {L : amL} : qL L L := fun _ _ _ _ _ _ _ _ => rfl
theorem HR_c {I I1 : amI} {L L1 : amL} {h : Nat} {r : Row} (hr : HR I L h r) (e1 : ∀ q, h ≤ q → q < h + 5 → I1 q = I q) (e2 : ∀ q, h ≤ q → q < h + 5 → L1 q = L q) : HR I1 L1 h r := by
  obtain ⟨a, b, c, d, e, f⟩ := hr
  exact ⟨by rw [e1 h (by omega) (by omega)]; exact a, by rw [e1 h (by omega) (by omega)]; exact b, by rw [e1 (h + 1) (by omega) (by omega)]; exact c, by rw [e2 (h + 2) (by omega) (by omega)]; exact d, by rw [e2 (h + 3) (by omega) (by omega)]; exact e, by rw [e1 (h + 4) (by omega) (by omega)]; exact f⟩
theorem CR_c {H : Nat × (Nat → Row)} {G : amG} {I I1 : amI} {L L1 : amL} (h : CR H G I L) (e0 : I1 61 = I 61) (e1 : ∀ q, 85 ≤ q → I1 q = I q) (e2 : ∀ q, 85 ≤ q → L1 q = L q) : CR H G I1 L1 := by
  obtain ⟨nx, a, b, c, d, e, f, g⟩ := h
  refine ⟨nx, a, by rw [e0]; exact b, by rw [e0]; exact c, d, e, f, fun j hj => ?_⟩
  obtain ⟨h, h1, h2⟩ := g j hj
  have := (e _ h (Nat.mod_lt _ (by decide)) h1).1
  exact ⟨h, h1, HR_c h2 (fun q a _ => e1 q (by omega)) (fun q a _ => e2 q (by omega))⟩
theorem OI_20 {I I1 : amI} {o n : Nat} {A : Nat → Int32} (h : OI I o n A) (e : ∀ q, o ≤ q → q ≤ o + 6 → I1 q = I q) : OI I1 o n A := OI_c h (fun j hj => e (o + j) (by omega) (by omega))
theorem shC_c {I I1 : amI} {o j : Nat} {h : Shf} (hs : shC I o j h) (e0 : I1 0 14 = I 0 14) (e : ∀ q, o ≤ q → q ≤ o + 6 → I1 q = I q) : shC I1 o j h := by
  rcases hs with ⟨a, b⟩ | ⟨a, b⟩
  · exact Or.inl ⟨a, by rw [e0]; exact b⟩
  · exact Or.inr ⟨OI_20 a e, by rw [e0]; exact b⟩
theorem CQ_c {s : St} {I I1 : amI} {L L1 : amL} (h : CQ s I L) (e : ∀ q, (q ≤ 9 ∨ (20 ≤ q ∧ q ≤ 33) ∨ q = 42) → I1 q = I q) (e2 : L1 36 = L 36) (e3 : L1 40 = L 40) : CQ s I1 L1 := by
  obtain ⟨h1, h2, h3, h4, h5, h6, h7, h8, h9, h10⟩ := h
  refine ⟨OI_20 h1 (fun q a b => e q (by omega)), by rw [e2]; exact h2, by rw [e3]; exact h3, by rw [e 42 (by omega)]; exact h4, by rw [e 0 (by omega)]; exact h5, shC_c h6 (by rw [e 0 (by omega)]) (fun q a b => e q (by omega)), shC_c h7 (by rw [e 0 (by omega)]) (fun q a b => e q (by omega)), by rw [e 0 (by omega)]; exact h8, by rw [e 1 (by omega)]; exact h9, by rw [e 2 (by omega)]; exact h10⟩
theorem CO_q {s : St} {G : amG} {I I1 : amI} {L L1 : amL} (h : CO s G I L) (e1 : qI I I1) (e2 : qL L L1) (hK : CK s I1 L1) : CO s G I1 L1 := by
  obtain ⟨h1, h2, h3, h4, h5⟩ := h
  exact ⟨h1, CQ_c h2 (fun q hq => e1 q (by omega) (by omega) (by omega) (by omega)) (e2 36 (by decide) (by decide) (by decide) (by decide) (by decide) (by decide) (by decide)) (e2 40 (by decide) (by decide) (by decide) (by decide) (by decide) (by decide) (by decide)), hK, CR_c h4 (e1 61 (by decide) (by decide) (by decide) (by decide)) (fun q hq => e1 q (by omega) (by omega) (by omega) (by omega)) (fun q hq => e2 q (by omega) (by omega) (by omega) (by omega) (by omega) (by omega) (by omega)), h5⟩
theorem q_fr {I I1 : amI} {L L1 : amL} (e1 : qI I I1) (e2 : qL L L1) : frK I L I1 L1 := fun p a b => ⟨e1 p (by omega) (by omega) (by omega) (by omega), e2 p (by omega) (by omega) (by omega) (by omega) (by omega) (by omega) (by omega)⟩
/-- the reference's work leaves the class as it was -/
theorem CO_M {s : St} {G : amG} {I I1 : amI} {L L1 : amL} (h : CO s G I L) (hf : frM I L I1 L1) : CO s G I1 L1 := by
  obtain ⟨h1, h2, ⟨k1, k2, k3⟩, h4, h5⟩ := h
  have eI : ∀ q, (q < 64 ∨ 85 ≤ q) → I1 q = I q := fun q hq => (hf q hq).1
  have eL : ∀ q, (q < 64 ∨ 85 ≤ q) → L1 q = L q := fun q hq => (hf q hq).2
  refine ⟨h1, CQ_c h2 (fun q hq => eI q (by omega)) (eL 36 (by omega)) (eL 40 (by omega)), ⟨?_, ?_, ?_⟩, CR_c h4 (eI 61 (by omega)) (fun q hq => eI q (by omega)) (fun q hq => eL q (by omega)), h5⟩
  · unfold LK LkM at k1 ⊢
    rw [eI 46 (by omega), eI 50 (by omega), eI 47 (by omega), eI 48 (by omega), eI 49 (by omega)]; exact k1
  · unfold DK at k2 ⊢
    rw [eI 56 (by omega), eL 57 (by omega)]; exact k2
  · rw [eI 56 (by omega), eL 56 (by omega)]; exact k3
theorem RI_C {s : St} {I I1 : amI} {L L1 : amL} (h : RI s I L) (hf : frK I L I1 L1) : RI s I1 L1 := by
  have eI : ∀ q, 64 ≤ q → q < 85 → I1 q = I q := fun q a b => (hf q a b).1
  have eL : ∀ q, 64 ≤ q → q < 85 → L1 q = L q := fun q a b => (hf q a b).2
  exact RI_c h (eL 65 (by decide) (by decide)) (eL 66 (by decide) (by decide)) (eI 67 (by decide) (by decide)) (eI 68 (by decide) (by decide)) (eI 69 (by decide) (by decide)) (by rw [eI 64 (by decide) (by decide)]) (by rw [eI 64 (by decide) (by decide)]) (by rw [eI 64 (by decide) (by decide)]) (TyK_c (by rw [eI 64 (by decide) (by decide)]) (by rw [eI 64 (by decide) (by decide)]) (eI 80 (by decide) (by decide)) (eI 81 (by decide) (by decide)) h.2.2.2.2.2.2.2.2)
/-- an exact question -/
theorem CO_qL {s : St} {G : amG} {I : amI} {L L1 : amL} (h : CO s G I L) (e2 : qL L L1) (e56 : L1 56 = L 56) (e57 : L1 57 = L 57) : CO s G I L1 ∧ frK I L I L1 := by
  refine ⟨CO_q h qI_r e2 ⟨h.2.2.1.1, ?_, ?_⟩, q_fr qI_r e2⟩
  · have := h.2.2.1.2.1
    unfold DK at this ⊢
    rw [e57]; exact this
  · rw [e56]; exact h.2.2.1.2.2
set_option maxRecDepth 100000 in
set_option maxHeartbeats 4000000 in
theorem b_X11_isFunction_0 {z : amZ} {post : amP} {G : amG} {I : amI} {L : amL} (hz : Go z cX11_isFunction RX11 1 (some .boolean) 0 0 0 post) (hG : Lay G) {v0 : Int32} (h : ((v0 < 0) → post (some (.int 0)) G I L) ∧ ((¬ v0 < 0) → (((4 : Int32) ≤ v0) → post (some (.int 0)) G I L) ∧ ((¬ (4 : Int32) ≤ v0) → post (some (.int 1)) G I L))) : Wx z 0 0 0 [(0, .int v0)] [] G I L := by
  have hz1 := hz.1
  refine am_iload_n hz1 dX11_isFunction_0 0 rfl rfl ?_
  refine am_if_lt (tgt := 13) hz1 dX11_isFunction_1 (by decide) (fun c1 => ?_) (fun c1 => ?_)
  · replace h := h.1 c1
    refine am_iconst (v := 0) hz1 dX11_isFunction_13 (by decide) ?_
    exact am_zreturn hz (by decide) dX11_isFunction_14 h
  · replace h := h.2 c1
    refine am_iload_n hz1 dX11_isFunction_4 0 rfl rfl ?_
    refine am_iconst (v := 4) hz1 dX11_isFunction_5 (by decide) ?_
    refine am_icmp_ge (tgt := 13) hz1 dX11_isFunction_6 (by decide) (fun c2 => ?_) (fun c2 => ?_)
    · replace h := h.1 c2
      refine am_iconst (v := 0) hz1 dX11_isFunction_13 (by decide) ?_
      exact am_zreturn hz (by decide) dX11_isFunction_14 h
    · replace h := h.2 c2
      refine am_iconst (v := 1) hz1 dX11_isFunction_9 (by decide) ?_
      refine am_goto (tgt := 14) hz1 dX11_isFunction_10 (by decide) ?_
      exact am_zreturn hz (by decide) dX11_isFunction_14 h
set_option maxRecDepth 100000 in
set_option maxHeartbeats 4000000 in
theorem c_X11_isFunction {l : Launch} {D : va_G} {B : Heap} {G : amG} {I : amI} {L : amL}  (hG : Lay G)  (v0 : Int32)  : Fx l D B yX11_isFunction cX11_isFunction 1 (some .boolean) 0 [.int v0] G I L (some (.int (bI (inR 3 v0)))) I L := by
  refine Mx.of (by decide) rfl rfl (fun z e1 e2 e3 hz => ?_)
  subst e1; subst e2; subst e3
  refine b_X11_isFunction_0 hz hG ?_
  have e : ∀ b, bI b = (if b = true then (1 : Int32) else 0) := fun b => by cases b <;> rfl
  refine ⟨fun h => ?_, fun h => ⟨fun h2 => ?_, fun h2 => ?_⟩⟩
  · have : inR 3 v0 = false := by
      rw [Bool.eq_false_iff]; intro q
      obtain ⟨k, hk, rfl⟩ := (inR_t (by decide)).mp q
      exact absurd h (nI_pos (by omega))
    rw [this]; exact ⟨rfl, rfl, rfl, rfl⟩
  · have : inR 3 v0 = false := by
      rw [Bool.eq_false_iff]; intro q
      obtain ⟨k, hk, rfl⟩ := (inR_t (by decide)).mp q
      exact absurd ((nI_leI (a := 4) (by decide) (by omega)).mp h2) (by omega)
    rw [this]; exact ⟨rfl, rfl, rfl, rfl⟩
  · have : inR 3 v0 = true := by
      obtain ⟨j, hj, rfl⟩ := nI_of h
      exact (inR_t (by decide)).mpr ⟨j, Nat.le_of_not_lt (fun q => h2 (nI_le (a := 4) (by omega) (by omega))), rfl⟩
    rw [this]; exact ⟨rfl, rfl, rfl, rfl⟩
set_option maxRecDepth 100000 in
set_option maxHeartbeats 4000000 in
theorem b_X11_isKept_0 {z : amZ} {post : amP} {G : amG} {I : amI} {L : amL} (hz : Go z cX11_isKept RX11 2 (some .boolean) 0 0 0 post) (hG : Lay G) {v1 : Int32} (h : ((v1 < 0) → post (some (.int 0)) G I L) ∧ ((¬ v1 < 0) → (((2 : Int32) ≤ v1) → post (some (.int 0)) G I L) ∧ ((¬ (2 : Int32) ≤ v1) → ((¬ (((I 0 14) >>> (v1 &&& 31)) &&& (1 : Int32)) = (1 : Int32)) → post (some (.int 0)) G I L) ∧ (((((I 0 14) >>> (v1 &&& 31)) &&& (1 : Int32)) = (1 : Int32)) → post (some (.int 1)) G I L)))) : Wx z 0 0 0 [(0, .ref ((zB z).size + 0)), (1, .int v1)] [] G I L := by
  have hz1 := hz.1
  refine am_iload_n hz1 dX11_isKept_0 1 rfl rfl ?_
  refine am_if_lt (tgt := 25) hz1 dX11_isKept_1 (by decide) (fun c1 => ?_) (fun c1 => ?_)
  · replace h := h.1 c1
    refine am_iconst (v := 0) hz1 dX11_isKept_25 (by decide) ?_
    exact am_zreturn hz (by decide) dX11_isKept_26 h
  · replace h := h.2 c1
    refine am_iload_n hz1 dX11_isKept_4 1 rfl rfl ?_
    refine am_iconst (v := 2) hz1 dX11_isKept_5 (by decide) ?_
    refine am_icmp_ge (tgt := 25) hz1 dX11_isKept_6 (by decide) (fun c2 => ?_) (fun c2 => ?_)
    · replace h := h.1 c2
      refine am_iconst (v := 0) hz1 dX11_isKept_25 (by decide) ?_
      exact am_zreturn hz (by decide) dX11_isKept_26 h
    · replace h := h.2 c2
      refine am_aload_n hz1 dX11_isKept_9 0 rfl rfl ?_
      refine am_getI hz1 fl_X11_179 (ln_0 hG) (lk_0 hG) rfl dX11_isKept_10 ?_
      refine am_iload_n hz1 dX11_isKept_13 1 rfl rfl ?_
      refine am_ishr hz1 dX11_isKept_14 ?_
      refine am_iconst (v := 1) hz1 dX11_isKept_15 (by decide) ?_
      refine am_iand hz1 dX11_isKept_16 ?_
      refine am_iconst (v := 1) hz1 dX11_isKept_17 (by decide) ?_
      refine am_icmp_ne (tgt := 25) hz1 dX11_isKept_18 (by decide) (fun c3 => ?_) (fun c3 => ?_)
      · replace h := h.1 c3
        refine am_iconst (v := 0) hz1 dX11_isKept_25 (by decide) ?_
        exact am_zreturn hz (by decide) dX11_isKept_26 h
      · replace h := h.2 c3
        refine am_iconst (v := 1) hz1 dX11_isKept_21 (by decide) ?_
        refine am_goto (tgt := 26) hz1 dX11_isKept_22 (by decide) ?_
        exact am_zreturn hz (by decide) dX11_isKept_26 h
set_option maxRecDepth 100000 in
set_option maxHeartbeats 4000000 in
theorem c_X11_isKept {l : Launch} {D : va_G} {B : Heap} {G : amG} {I : amI} {L : amL}  (hG : Lay G)  (v1 : Int32)  : Fx l D B yX11_isKept cX11_isKept 2 (some .boolean) 0 [.ref (B.size + 0), .int v1] G I L (some (.int (bI (kpB I v1)))) I L := by
  refine Mx.of (by decide) rfl rfl (fun z e1 e2 e3 hz => ?_)
  subst e1; subst e2; subst e3
  refine b_X11_isKept_0 hz hG ?_
  refine ⟨fun h => ?_, fun h => ⟨fun h2 => ?_, fun h2 => ?_⟩⟩
  · have : kpB I v1 = false := by
      rw [kpB, Bool.eq_false_iff]; intro q
      rw [Bool.and_eq_true] at q
      obtain ⟨k, hk, rfl⟩ := (el_t (by decide)).mp q.1
      exact absurd h (nI_pos (by omega))
    rw [this]; exact ⟨rfl, rfl, rfl, rfl⟩
  · have : kpB I v1 = false := by
      rw [kpB, Bool.eq_false_iff]; intro q
      rw [Bool.and_eq_true] at q
      obtain ⟨k, hk, rfl⟩ := (el_t (by decide)).mp q.1
      exact absurd ((nI_leI (a := 2) (by decide) (by omega)).mp h2) (by omega)
    rw [this]; exact ⟨rfl, rfl, rfl, rfl⟩
  · obtain ⟨j, hj, rfl⟩ := nI_of h
    have hj2 : j < 2 := Nat.lt_of_not_le (fun q => h2 (nI_le (a := 2) q (by omega)))
    have e : kpB I (nI j) = bt (I 0 14) j := by rw [kpB, (el_t (by decide)).mpr ⟨j, hj2, rfl⟩, Bool.true_and, cl_nI hj]
    rw [b_bit _ _ (show j < 32 by omega), e]
    refine ⟨fun q => ?_, fun q => ?_⟩
    · rw [Bool.not_eq_true] at q
      rw [q]; exact ⟨rfl, rfl, rfl, rfl⟩
    · rw [q]; exact ⟨rfl, rfl, rfl, rfl⟩
set_option maxRecDepth 100000 in
set_option maxHeartbeats 4000000 in
theorem b_X11_isThere_0 {z : amZ} {post : amP} {G : amG} {I : amI} {L : amL} (hz : Go z cX11_isThere RX11 2 (some .boolean) 1 0 0 post) (hG : Lay G) {v1 : Int32} (h : ((kpB I (0 : Int32) = false) → post (some (.int 0)) G I L) ∧ ((kpB I (0 : Int32) = true) → ((q_has I 20 v1 = false) → post (some (.int 0)) G I L) ∧ ((q_has I 20 v1 = true) → post (some (.int 1)) G I L))) : Wx z 0 0 0 [(0, .ref ((zB z).size + 0)), (1, .int v1)] [] G I L := by
  have hz1 := hz.1
  refine am_aload_n hz1 dX11_isThere_0 0 rfl rfl ?_
  refine am_iconst (v := 0) hz1 dX11_isThere_1 (by decide) ?_
  refine am_cVf hz cv_X11_166 [.int 0] [] (c_X11_isKept hG (0 : Int32) ) (ln_0 hG) (lk_0 hG) rfl rfl rfl ⟨Nat.le_refl _, Nat.le_refl _⟩ (Nat.le_of_ble_eq_true rfl) dX11_isThere_2 ?_
  refine am_ifb_eq (tgt := 25) hz1 dX11_isThere_5 (by decide) (fun c1 => ?_) (fun c1 => ?_)
  · replace h := h.1 c1
    refine am_iconst (v := 0) hz1 dX11_isThere_25 (by decide) ?_
    exact am_zreturn hz (by decide) dX11_isThere_26 h
  · replace h := h.2 c1
    refine am_aload_n hz1 dX11_isThere_8 0 rfl rfl ?_
    refine am_getR hz1 fl_X11_37 (ln_0 hG) (lk_0 hG) (lr_0_4 hG) rfl dX11_isThere_9 ?_
    refine am_iconst (v := 0) hz1 dX11_isThere_12 (by decide) ?_
    refine am_aald hz1 (t := 3) (kd := 53) rfl (by decide) (ln_19 hG) (lk_19 hG) (by rw [(ll_19 hG)]; exact in_nI (n := 0) (by decide) (by decide)) (lr_19_0 hG) dX11_isThere_13 ?_
    refine am_iload_n hz1 dX11_isThere_14 1 rfl rfl ?_
    refine am_cVf hz cv_X11_118 [.int v1] [] (c_X4_has hG isO_20 v1 ) (ln_20 hG) (lk_20 hG) rfl rfl rfl ⟨Nat.le_refl _, Nat.le_refl _⟩ (Nat.le_of_ble_eq_true rfl) dX11_isThere_15 ?_
    refine am_ifb_eq (tgt := 25) hz1 dX11_isThere_18 (by decide) (fun c2 => ?_) (fun c2 => ?_)
    · replace h := h.1 c2
      refine am_iconst (v := 0) hz1 dX11_isThere_25 (by decide) ?_
      exact am_zreturn hz (by decide) dX11_isThere_26 h
    · replace h := h.2 c2
      refine am_iconst (v := 1) hz1 dX11_isThere_21 (by decide) ?_
      refine am_goto (tgt := 26) hz1 dX11_isThere_22 (by decide) ?_
      exact am_zreturn hz (by decide) dX11_isThere_26 h
set_option maxRecDepth 100000 in
set_option maxHeartbeats 4000000 in
theorem c_X11_isThere {l : Launch} {D : va_G} {B : Heap} {G : amG} {I : amI} {L : amL}  (hG : Lay G)  (v1 : Int32)  : Fx l D B yX11_isThere cX11_isThere 2 (some .boolean) 1 [.ref (B.size + 0), .int v1] G I L (some (.int (bI ((kpB I 0 && q_has I 20 v1))))) I L := by
  refine Mx.of (by decide) rfl rfl (fun z e1 e2 e3 hz => ?_)
  subst e1; subst e2; subst e3
  refine b_X11_isThere_0 hz hG ?_
  refine ⟨fun h => ?_, fun h => ⟨fun h2 => ?_, fun h2 => ?_⟩⟩
  · rw [show kpB I 0 = false from h]; exact ⟨rfl, rfl, rfl, rfl⟩
  · rw [show kpB I 0 = true from h, h2]; exact ⟨rfl, rfl, rfl, rfl⟩
  · rw [show kpB I 0 = true from h, h2]; exact ⟨rfl, rfl, rfl, rfl⟩
set_option maxRecDepth 100000 in
set_option maxHeartbeats 4000000 in
theorem b_X11_value_0 {z : amZ} {post : amP} {G : amG} {I : amI} {L : amL} (hz : Go z cX11_value RX11 4 (some .long) 3 0 0 post) (hG : Lay G) {v1 : Int32} {v2 : Int32} {v3 : Int32} (h : ((inR 3 v1 = false) → post (some (.long (-9223372036854775808 : Int64))) G I L) ∧ ((inR 3 v1 = true) → (szOk I 3) ∧ ((q_atMost I 3 v2 v3 = true) → (vp_in (q_cell v1 v2 v3) 1024) ∧ post (some (.long (L 36 (q_cell v1 v2 v3).toNatClampNeg))) G I L) ∧ ((q_atMost I 3 v2 v3 = false) → post (some (.long (-9223372036854775808 : Int64))) G I L))) : Wx z 0 0 0 [(0, .ref ((zB z).size + 0)), (1, .int v1), (2, .int v2), (3, .int v3)] [] G I L := by
  have hz1 := hz.1
  refine am_iload_n hz1 dX11_value_0 1 rfl rfl ?_
  refine am_cSf hz ct_X11_237 [.int v1] [] (c_X11_isFunction hG v1 ) rfl rfl rfl ⟨Nat.le_refl _, Nat.le_refl _⟩ (Nat.le_of_ble_eq_true rfl) dX11_value_1 ?_
  refine am_ifb_eq (tgt := 19) hz1 dX11_value_4 (by decide) (fun c1 => ?_) (fun c1 => ?_)
  · replace h := h.1 c1
    refine am_ldc2 hz1 kc_X11_281 dX11_value_19 ?_
    exact am_lreturn hz dX11_value_22 h
  · replace h := h.2 c1
    refine am_aload_n hz1 dX11_value_7 0 rfl rfl ?_
    refine am_getR hz1 fl_X11_21 (ln_0 hG) (lk_0 hG) (lr_0_2 hG) rfl dX11_value_8 ?_
    refine am_iload_n hz1 dX11_value_11 2 rfl rfl ?_
    refine am_iload_n hz1 dX11_value_12 3 rfl rfl ?_
    obtain ⟨g2, h⟩ := h
    refine am_cVf hz cv_X11_126 [.int v2, .int v3] [] (c_X4_atMost hG isO_3 v2 v3 g2) (ln_3 hG) (lk_3 hG) rfl rfl rfl ⟨Nat.le_refl _, Nat.le_refl _⟩ (Nat.le_of_ble_eq_true rfl) dX11_value_13 ?_
    refine am_ifb_ne (tgt := 23) hz1 dX11_value_16 (by decide) (fun c3 => ?_) (fun c3 => ?_)
    · replace h := h.1 c3
      refine am_aload_n hz1 dX11_value_23 0 rfl rfl ?_
      refine am_getR hz1 fl_X11_53 (ln_0 hG) (lk_0 hG) (lr_0_5 hG) rfl dX11_value_24 ?_
      refine am_iload_n hz1 dX11_value_27 1 rfl rfl ?_
      refine am_iload_n hz1 dX11_value_28 2 rfl rfl ?_
      refine am_iload_n hz1 dX11_value_29 3 rfl rfl ?_
      obtain ⟨g4, h⟩ := h
      refine am_cVf hz cv_X11_246 [.int v1, .int v2, .int v3] [] (c_X0_at hG v1 v2 v3 g4) (ln_35 hG) (lk_35 hG) rfl rfl rfl ⟨Nat.le_refl _, Nat.le_refl _⟩ (Nat.le_of_ble_eq_true rfl) dX11_value_30 ?_
      exact am_lreturn hz dX11_value_33 h
    · replace h := h.2 c3
      refine am_ldc2 hz1 kc_X11_281 dX11_value_19 ?_
      exact am_lreturn hz dX11_value_22 h
set_option maxRecDepth 100000 in
set_option maxHeartbeats 4000000 in
theorem c_X11_value {l : Launch} {D : va_G} {B : Heap} {G : amG} {I : amI} {L : amL}  (hG : Lay G)  (v1 : Int32) (v2 : Int32) (v3 : Int32) {s : St} (hs : CO s G I L) (hw : WF s) : Mx l D B yX11_value cX11_value 4 (some .long) 3 0 0 [.ref (B.size + 0), .int v1, .int v2, .int v3] G I L (fun r G1 I1 L1 => r = some (.long (aVal s v1 v2 v3)) ∧ G1 = G ∧ CO s G I1 L1 ∧ frK I L I1 L1) := by
  refine Mx.of (by decide) rfl rfl (fun z e1 e2 e3 hz => ?_)
  subst e1; subst e2; subst e3
  refine b_X11_value_0 hz hG ?_
  have hO := hs.2.1.1
  have h16 := hO.2.2.1
  rw [hO.amB]
  refine ⟨fun h => ⟨by rw [aVal, if_neg (by rw [h]; simp)], rfl, hs, frK_r⟩, fun h => ⟨hO.sz, fun h2 => ?_, fun h2 => ⟨by rw [aVal, if_neg (by rw [h2]; simp)], rfl, hs, frK_r⟩⟩⟩
  obtain ⟨f, hf, rfl⟩ := fnR h
  obtain ⟨x, y, hx, hy, rfl, rfl, hl⟩ := (iv_t h16).mp h2
  rw [cell_n, cl_nI (by omega)]
  refine ⟨in_nI (by omega) (by decide), ?_, rfl, hs, frK_r⟩
  rw [aVal, if_pos (by rw [h, h2]; rfl), cl_nI (by omega), cl_nI (by omega), cl_nI (by omega), hs.2.1.2.1 _ (by omega)]
set_option maxRecDepth 100000 in
set_option maxHeartbeats 4000000 in
theorem b_X11_about_0 {z : amZ} {post : amP} {G : amG} {I : amI} {L : amL} (hz : Go z cX11_about RX11 3 (some .int) 2 0 0 post) (hG : Lay G) {v1 : Int32} {v2 : Int32} (h : ((q_has I 3 v1 = true) → (v2 = 0 → (szOk I 3) ∧ post (some (.int (q_upTo I 3 v1))) G I L) ∧ (v2 = 1 → (szOk I 3) ∧ post (some (.int (q_from I 3 v1))) G I L) ∧ (v2 = 2 → vp_in v1 16 ∧ post (some (.int (I 6 v1.toNatClampNeg))) G I L) ∧ (v2 = 3 → vp_in v1 16 ∧ post (some (.int (I 7 v1.toNatClampNeg))) G I L) ∧ (v2 = 4 → vp_in v1 16 ∧ post (some (.int (I 8 v1.toNatClampNeg))) G I L) ∧ (v2 = 5 → vp_in v1 16 ∧ ((0 ≤ (I 42 v1.toNatClampNeg)) → vp_in v1 16 ∧ post (some (.int (I 42 v1.toNatClampNeg))) G I L) ∧ ((¬ 0 ≤ (I 42 v1.toNatClampNeg)) → post (some (.int (-2))) G I L)) ∧ ((v2 < 0 ∨ 5 < v2) → post (some (.int (-1))) G I L)) ∧ ((q_has I 3 v1 = false) → post (some (.int (-1))) G I L)) : Wx z 0 0 0 [(0, .ref ((zB z).size + 0)), (1, .int v1), (2, .int v2)] [] G I L := by
  have hz1 := hz.1
  refine am_aload_n hz1 dX11_about_0 0 rfl rfl ?_
  refine am_getR hz1 fl_X11_21 (ln_0 hG) (lk_0 hG) (lr_0_2 hG) rfl dX11_about_1 ?_
  refine am_iload_n hz1 dX11_about_4 1 rfl rfl ?_
  refine am_cVf hz cv_X11_118 [.int v1] [] (c_X4_has hG isO_3 v1 ) (ln_3 hG) (lk_3 hG) rfl rfl rfl ⟨Nat.le_refl _, Nat.le_refl _⟩ (Nat.le_of_ble_eq_true rfl) dX11_about_5 ?_
  refine am_ifb_ne (tgt := 13) hz1 dX11_about_8 (by decide) (fun c1 => ?_) (fun c1 => ?_)
  · replace h := h.1 c1
    refine am_iload_n hz1 dX11_about_13 2 rfl rfl ?_
    by_cases c2_0 : v2 = 0
    · replace h := h.1 c2_0
      refine am_tabI (off := 38) (tgt := 52) hz1 0 dX11_about_14 c2_0 (by decide) (by decide) rfl (by decide) ?_
      refine am_aload_n hz1 dX11_about_52 0 rfl rfl ?_
      refine am_getR hz1 fl_X11_21 (ln_0 hG) (lk_0 hG) (lr_0_2 hG) rfl dX11_about_53 ?_
      refine am_iload_n hz1 dX11_about_56 1 rfl rfl ?_
      obtain ⟨g3, h⟩ := h
      refine am_cVf hz cv_X11_283 [.int v1] [] (c_X4_upTo hG isO_3 v1 g3) (ln_3 hG) (lk_3 hG) rfl rfl rfl ⟨Nat.le_refl _, Nat.le_refl _⟩ (Nat.le_of_ble_eq_true rfl) dX11_about_57 ?_
      exact am_ireturn hz dX11_about_60 h
    by_cases c2_1 : v2 = 1
    · replace h := h.2.1 c2_1
      refine am_tabI (off := 47) (tgt := 61) hz1 1 dX11_about_14 c2_1 (by decide) (by decide) rfl (by decide) ?_
      refine am_aload_n hz1 dX11_about_61 0 rfl rfl ?_
      refine am_getR hz1 fl_X11_21 (ln_0 hG) (lk_0 hG) (lr_0_2 hG) rfl dX11_about_62 ?_
      refine am_iload_n hz1 dX11_about_65 1 rfl rfl ?_
      obtain ⟨g4, h⟩ := h
      refine am_cVf hz cv_X11_287 [.int v1] [] (c_X4_from hG isO_3 v1 g4) (ln_3 hG) (lk_3 hG) rfl rfl rfl ⟨Nat.le_refl _, Nat.le_refl _⟩ (Nat.le_of_ble_eq_true rfl) dX11_about_66 ?_
      exact am_ireturn hz dX11_about_69 h
    by_cases c2_2 : v2 = 2
    · replace h := h.2.2.1 c2_2
      refine am_tabI (off := 56) (tgt := 70) hz1 2 dX11_about_14 c2_2 (by decide) (by decide) rfl (by decide) ?_
      refine am_aload_n hz1 dX11_about_70 0 rfl rfl ?_
      refine am_getR hz1 fl_X11_21 (ln_0 hG) (lk_0 hG) (lr_0_2 hG) rfl dX11_about_71 ?_
      refine am_getR hz1 fl_X11_142 (ln_3 hG) (lk_3 hG) (lr_3_3 hG) rfl dX11_about_74 ?_
      refine am_iload_n hz1 dX11_about_77 1 rfl rfl ?_
      obtain ⟨g5, h⟩ := h
      refine am_iald hz1 (ln_6 hG) (lk_6 hG) (by rw [(ll_6 hG)]; exact g5) dX11_about_78 ?_
      exact am_ireturn hz dX11_about_79 h
    by_cases c2_3 : v2 = 3
    · replace h := h.2.2.2.1 c2_3
      refine am_tabI (off := 66) (tgt := 80) hz1 3 dX11_about_14 c2_3 (by decide) (by decide) rfl (by decide) ?_
      refine am_aload_n hz1 dX11_about_80 0 rfl rfl ?_
      refine am_getR hz1 fl_X11_21 (ln_0 hG) (lk_0 hG) (lr_0_2 hG) rfl dX11_about_81 ?_
      refine am_getR hz1 fl_X11_290 (ln_3 hG) (lk_3 hG) (lr_3_4 hG) rfl dX11_about_84 ?_
      refine am_iload_n hz1 dX11_about_87 1 rfl rfl ?_
      obtain ⟨g6, h⟩ := h
      refine am_iald hz1 (ln_7 hG) (lk_7 hG) (by rw [(ll_7 hG)]; exact g6) dX11_about_88 ?_
      exact am_ireturn hz dX11_about_89 h
    by_cases c2_4 : v2 = 4
    · replace h := h.2.2.2.2.1 c2_4
      refine am_tabI (off := 76) (tgt := 90) hz1 4 dX11_about_14 c2_4 (by decide) (by decide) rfl (by decide) ?_
      refine am_aload_n hz1 dX11_about_90 0 rfl rfl ?_
      refine am_getR hz1 fl_X11_21 (ln_0 hG) (lk_0 hG) (lr_0_2 hG) rfl dX11_about_91 ?_
      refine am_getR hz1 fl_X11_293 (ln_3 hG) (lk_3 hG) (lr_3_5 hG) rfl dX11_about_94 ?_
      refine am_iload_n hz1 dX11_about_97 1 rfl rfl ?_
      obtain ⟨g7, h⟩ := h
      refine am_iald hz1 (ln_8 hG) (lk_8 hG) (by rw [(ll_8 hG)]; exact g7) dX11_about_98 ?_
      exact am_ireturn hz dX11_about_99 h
    by_cases c2_5 : v2 = 5
    · replace h := h.2.2.2.2.2.1 c2_5
      refine am_tabI (off := 86) (tgt := 100) hz1 5 dX11_about_14 c2_5 (by decide) (by decide) rfl (by decide) ?_
      refine am_aload_n hz1 dX11_about_100 0 rfl rfl ?_
      refine am_getR hz1 fl_X11_66 (ln_0 hG) (lk_0 hG) (lr_0_7 hG) rfl dX11_about_101 ?_
      refine am_getR hz1 fl_X11_225 (ln_41 hG) (lk_41 hG) (lr_41_0 hG) rfl dX11_about_104 ?_
      refine am_iload_n hz1 dX11_about_107 1 rfl rfl ?_
      obtain ⟨g8, h⟩ := h
      refine am_iald hz1 (ln_42 hG) (lk_42 hG) (by rw [(ll_42 hG)]; exact g8) dX11_about_108 ?_
      refine am_if_ge (tgt := 117) hz1 dX11_about_109 (by decide) (fun c9 => ?_) (fun c9 => ?_)
      · replace h := h.1 c9
        refine am_aload_n hz1 dX11_about_117 0 rfl rfl ?_
        refine am_getR hz1 fl_X11_66 (ln_0 hG) (lk_0 hG) (lr_0_7 hG) rfl dX11_about_118 ?_
        refine am_getR hz1 fl_X11_225 (ln_41 hG) (lk_41 hG) (lr_41_0 hG) rfl dX11_about_121 ?_
        refine am_iload_n hz1 dX11_about_124 1 rfl rfl ?_
        obtain ⟨g10, h⟩ := h
        refine am_iald hz1 (ln_42 hG) (lk_42 hG) (by rw [(ll_42 hG)]; exact g10) dX11_about_125 ?_
        exact am_ireturn hz dX11_about_126 h
      · replace h := h.2 c9
        refine am_bipush (v := (-2)) hz1 dX11_about_112 (by decide) ?_
        refine am_goto (tgt := 126) hz1 dX11_about_114 (by decide) ?_
        exact am_ireturn hz dX11_about_126 h
    have c2 : v2 < 0 ∨ 5 < v2 := tabx_6_0 c2_0 c2_1 c2_2 c2_3 c2_4 c2_5
    replace h := h.2.2.2.2.2.2 c2
    refine am_tabO (tgt := 127) hz1 dX11_about_14 (c2.elim (fun e => Or.inl (tab_lt 0 rfl e)) (fun e => Or.inr (tab_gt 5 rfl e))) (by decide) ?_
    refine am_iconst (v := (-1)) hz1 dX11_about_127 (by decide) ?_
    exact am_ireturn hz dX11_about_128 h
  · replace h := h.2 c1
    refine am_iconst (v := (-1)) hz1 dX11_about_11 (by decide) ?_
    exact am_ireturn hz dX11_about_12 h
set_option maxRecDepth 100000 in
set_option maxHeartbeats 4000000 in
theorem c_X11_about {l : Launch} {D : va_G} {B : Heap} {G : amG} {I : amI} {L : amL}  (hG : Lay G)  (v1 : Int32) (v2 : Int32) {s : St} (hs : CO s G I L) (hw : WF s) : Mx l D B yX11_about cX11_about 3 (some .int) 2 0 0 [.ref (B.size + 0), .int v1, .int v2] G I L (fun r G1 I1 L1 => r = some (.int (aAbout s v1 v2)) ∧ G1 = G ∧ CO s G I1 L1 ∧ frK I L I1 L1) := by
  refine Mx.of (by decide) rfl rfl (fun z e1 e2 e3 hz => ?_)
  subst e1; subst e2; subst e3
  refine b_X11_about_0 hz hG ?_
  have hO := hs.2.1.1
  have h16 := hO.2.2.1
  have hD := hO.2.2.2.2.2.2
  rw [hO.hasB]
  refine ⟨fun h => ?_, fun h => ⟨by rw [aAbout, if_neg (by rw [h]; decide)], rfl, hs, frK_r⟩⟩
  obtain ⟨x, hx, rfl⟩ := (el_t (by omega)).mp h
  have ex : (nI x).toNatClampNeg = x := cl_nI (by omega)
  rw [ex]
  refine ⟨fun h0 => ⟨hO.sz, ?_, rfl, hs, frK_r⟩, fun h1 => ⟨hO.sz, ?_, rfl, hs, frK_r⟩, fun h2 => ⟨in16 h16 hx, ?_, rfl, hs, frK_r⟩, fun h3 => ⟨in16 h16 hx, ?_, rfl, hs, frK_r⟩, fun h4 => ⟨in16 h16 hx, ?_, rfl, hs, frK_r⟩, fun h5 => ⟨in16 h16 hx, ?_⟩, fun h6 => ⟨?_, rfl, hs, frK_r⟩⟩
  · subst h0; rw [aAbout, if_pos h, if_pos rfl, ex, hO.upTo hx]
  · subst h1; rw [aAbout, if_pos h, if_neg (by decide), if_pos rfl, ex, hO.from hx]
  · subst h2; rw [aAbout, if_pos h, if_neg (by decide), if_neg (by decide), if_pos rfl, ex, hD.2.1 x hx]
  · subst h3; rw [aAbout, if_pos h, if_neg (by decide), if_neg (by decide), if_neg (by decide), if_pos rfl, ex, hD.2.2.1 x hx]
  · subst h4; rw [aAbout, if_pos h, if_neg (by decide), if_neg (by decide), if_neg (by decide), if_neg (by decide), if_pos rfl, ex]
    exact congrArg _ (congrArg _ (hO.ht hx))
  · subst h5
    have hP := hs.2.1.2.2.2.1 x (by omega)
    rw [hP, aAbout, if_pos h, if_neg (by decide), if_neg (by decide), if_neg (by decide), if_neg (by decide), if_neg (by decide), if_pos rfl, ex]
    rcases hw.1.2.2.1 hw.2.1 x (by omega) with e | ⟨y, hy, e⟩
    · rw [e]
      refine ⟨fun q => absurd q (by decide), fun _ => ⟨rfl, rfl, hs, frK_r⟩⟩
    · have hk := hw.2.2.1
      rw [e, if_neg (fun q => absurd (show (nI y : Int32) < 0 by rw [q]; decide) (nI_pos (by omega)))]
      exact ⟨fun q => ⟨in16 h16 hx, rfl, rfl, hs, frK_r⟩, fun q => absurd (nI_pos' (by omega)) q⟩
  · obtain ⟨a, b, c, d, e, f⟩ := cases6 h6
    rw [aAbout, if_pos h, if_neg a, if_neg b, if_neg c, if_neg d, if_neg e, if_neg f]
set_option maxRecDepth 100000 in
set_option maxHeartbeats 4000000 in
theorem b_X11_bound_0 {z : amZ} {post : amP} {G : amG} {I : amI} {L : amL} (hz : Go z cX11_bound RX11 4 (some .int) 3 0 0 post) (hG : Lay G) {v1 : Int32} {v2 : Int32} {v3 : Int32} (h : ((q_has I 3 v1 = false) → post (some (.int (-1))) G I L) ∧ ((q_has I 3 v1 = true) → ((q_has I 3 v2 = true) → (v3 = 0 → (szOk I 3) ∧ (szOk I 3) ∧ (szOk I 3) ∧ post (some (.int (q_least I 3 ((q_from I 3 v1) &&& (q_from I 3 v2))))) G I L) ∧ (v3 = 1 → (szOk I 3) ∧ (szOk I 3) ∧ (szOk I 3) ∧ post (some (.int (q_greatest I 3 ((q_upTo I 3 v1) &&& (q_upTo I 3 v2))))) G I L) ∧ (v3 = 2 → (szOk I 3) ∧ post (some (.int (q_between I 3 v1 v2))) G I L) ∧ ((v3 < 0 ∨ 2 < v3) → post (some (.int (-1))) G I L)) ∧ ((q_has I 3 v2 = false) → post (some (.int (-1))) G I L))) : Wx z 0 0 0 [(0, .ref ((zB z).size + 0)), (1, .int v1), (2, .int v2), (3, .int v3)] [] G I L := by
  have hz1 := hz.1
  refine am_aload_n hz1 dX11_bound_0 0 rfl rfl ?_
  refine am_getR hz1 fl_X11_21 (ln_0 hG) (lk_0 hG) (lr_0_2 hG) rfl dX11_bound_1 ?_
  refine am_iload_n hz1 dX11_bound_4 1 rfl rfl ?_
  refine am_cVf hz cv_X11_118 [.int v1] [] (c_X4_has hG isO_3 v1 ) (ln_3 hG) (lk_3 hG) rfl rfl rfl ⟨Nat.le_refl _, Nat.le_refl _⟩ (Nat.le_of_ble_eq_true rfl) dX11_bound_5 ?_
  refine am_ifb_eq (tgt := 22) hz1 dX11_bound_8 (by decide) (fun c1 => ?_) (fun c1 => ?_)
  · replace h := h.1 c1
    refine am_iconst (v := (-1)) hz1 dX11_bound_22 (by decide) ?_
    exact am_ireturn hz dX11_bound_23 h
  · replace h := h.2 c1
    refine am_aload_n hz1 dX11_bound_11 0 rfl rfl ?_
    refine am_getR hz1 fl_X11_21 (ln_0 hG) (lk_0 hG) (lr_0_2 hG) rfl dX11_bound_12 ?_
    refine am_iload_n hz1 dX11_bound_15 2 rfl rfl ?_
    refine am_cVf hz cv_X11_118 [.int v2] [] (c_X4_has hG isO_3 v2 ) (ln_3 hG) (lk_3 hG) rfl rfl rfl ⟨Nat.le_refl _, Nat.le_refl _⟩ (Nat.le_of_ble_eq_true rfl) dX11_bound_16 ?_
    refine am_ifb_ne (tgt := 24) hz1 dX11_bound_19 (by decide) (fun c2 => ?_) (fun c2 => ?_)
    · replace h := h.1 c2
      refine am_iload_n hz1 dX11_bound_24 3 rfl rfl ?_
      by_cases c3_0 : v3 = 0
      · replace h := h.1 c3_0
        refine am_tabI (off := 27) (tgt := 52) hz1 0 dX11_bound_25 c3_0 (by decide) (by decide) rfl (by decide) ?_
        refine am_aload_n hz1 dX11_bound_52 0 rfl rfl ?_
        refine am_getR hz1 fl_X11_21 (ln_0 hG) (lk_0 hG) (lr_0_2 hG) rfl dX11_bound_53 ?_
        refine am_aload_n hz1 dX11_bound_56 0 rfl rfl ?_
        refine am_getR hz1 fl_X11_21 (ln_0 hG) (lk_0 hG) (lr_0_2 hG) rfl dX11_bound_57 ?_
        refine am_iload_n hz1 dX11_bound_60 1 rfl rfl ?_
        obtain ⟨g4, h⟩ := h
        refine am_cVf hz cv_X11_287 [.int v1] [.ref ((zB z).size + 3)] (c_X4_from hG isO_3 v1 g4) (ln_3 hG) (lk_3 hG) rfl rfl rfl ⟨Nat.le_refl _, Nat.le_refl _⟩ (Nat.le_of_ble_eq_true rfl) dX11_bound_61 ?_
        refine am_aload_n hz1 dX11_bound_64 0 rfl rfl ?_
        refine am_getR hz1 fl_X11_21 (ln_0 hG) (lk_0 hG) (lr_0_2 hG) rfl dX11_bound_65 ?_
        refine am_iload_n hz1 dX11_bound_68 2 rfl rfl ?_
        obtain ⟨g5, h⟩ := h
        refine am_cVf hz cv_X11_287 [.int v2] [.int (q_from I 3 v1), .ref ((zB z).size + 3)] (c_X4_from hG isO_3 v2 g5) (ln_3 hG) (lk_3 hG) rfl rfl rfl ⟨Nat.le_refl _, Nat.le_refl _⟩ (Nat.le_of_ble_eq_true rfl) dX11_bound_69 ?_
        refine am_iand hz1 dX11_bound_72 ?_
        obtain ⟨g6, h⟩ := h
        refine am_cVf hz cv_X11_296 [.int ((q_from I 3 v1) &&& (q_from I 3 v2))] [] (c_X4_least hG isO_3 ((q_from I 3 v1) &&& (q_from I 3 v2)) g6) (ln_3 hG) (lk_3 hG) rfl rfl rfl ⟨Nat.le_refl _, Nat.le_refl _⟩ (Nat.le_of_ble_eq_true rfl) dX11_bound_73 ?_
        exact am_ireturn hz dX11_bound_76 h
      by_cases c3_1 : v3 = 1
      · replace h := h.2.1 c3_1
        refine am_tabI (off := 52) (tgt := 77) hz1 1 dX11_bound_25 c3_1 (by decide) (by decide) rfl (by decide) ?_
        refine am_aload_n hz1 dX11_bound_77 0 rfl rfl ?_
        refine am_getR hz1 fl_X11_21 (ln_0 hG) (lk_0 hG) (lr_0_2 hG) rfl dX11_bound_78 ?_
        refine am_aload_n hz1 dX11_bound_81 0 rfl rfl ?_
        refine am_getR hz1 fl_X11_21 (ln_0 hG) (lk_0 hG) (lr_0_2 hG) rfl dX11_bound_82 ?_
        refine am_iload_n hz1 dX11_bound_85 1 rfl rfl ?_
        obtain ⟨g7, h⟩ := h
        refine am_cVf hz cv_X11_283 [.int v1] [.ref ((zB z).size + 3)] (c_X4_upTo hG isO_3 v1 g7) (ln_3 hG) (lk_3 hG) rfl rfl rfl ⟨Nat.le_refl _, Nat.le_refl _⟩ (Nat.le_of_ble_eq_true rfl) dX11_bound_86 ?_
        refine am_aload_n hz1 dX11_bound_89 0 rfl rfl ?_
        refine am_getR hz1 fl_X11_21 (ln_0 hG) (lk_0 hG) (lr_0_2 hG) rfl dX11_bound_90 ?_
        refine am_iload_n hz1 dX11_bound_93 2 rfl rfl ?_
        obtain ⟨g8, h⟩ := h
        refine am_cVf hz cv_X11_283 [.int v2] [.int (q_upTo I 3 v1), .ref ((zB z).size + 3)] (c_X4_upTo hG isO_3 v2 g8) (ln_3 hG) (lk_3 hG) rfl rfl rfl ⟨Nat.le_refl _, Nat.le_refl _⟩ (Nat.le_of_ble_eq_true rfl) dX11_bound_94 ?_
        refine am_iand hz1 dX11_bound_97 ?_
        obtain ⟨g9, h⟩ := h
        refine am_cVf hz cv_X11_299 [.int ((q_upTo I 3 v1) &&& (q_upTo I 3 v2))] [] (c_X4_greatest hG isO_3 ((q_upTo I 3 v1) &&& (q_upTo I 3 v2)) g9) (ln_3 hG) (lk_3 hG) rfl rfl rfl ⟨Nat.le_refl _, Nat.le_refl _⟩ (Nat.le_of_ble_eq_true rfl) dX11_bound_98 ?_
        exact am_ireturn hz dX11_bound_101 h
      by_cases c3_2 : v3 = 2
      · replace h := h.2.2.1 c3_2
        refine am_tabI (off := 77) (tgt := 102) hz1 2 dX11_bound_25 c3_2 (by decide) (by decide) rfl (by decide) ?_
        refine am_aload_n hz1 dX11_bound_102 0 rfl rfl ?_
        refine am_getR hz1 fl_X11_21 (ln_0 hG) (lk_0 hG) (lr_0_2 hG) rfl dX11_bound_103 ?_
        refine am_iload_n hz1 dX11_bound_106 1 rfl rfl ?_
        refine am_iload_n hz1 dX11_bound_107 2 rfl rfl ?_
        obtain ⟨g10, h⟩ := h
        refine am_cVf hz cv_X11_156 [.int v1, .int v2] [] (c_X4_between hG isO_3 v1 v2 g10) (ln_3 hG) (lk_3 hG) rfl rfl rfl ⟨Nat.le_refl _, Nat.le_refl _⟩ (Nat.le_of_ble_eq_true rfl) dX11_bound_108 ?_
        exact am_ireturn hz dX11_bound_111 h
      have c3 : v3 < 0 ∨ 2 < v3 := tabx_3_0 c3_0 c3_1 c3_2
      replace h := h.2.2.2 c3
      refine am_tabO (tgt := 112) hz1 dX11_bound_25 (c3.elim (fun e => Or.inl (tab_lt 0 rfl e)) (fun e => Or.inr (tab_gt 2 rfl e))) (by decide) ?_
      refine am_iconst (v := (-1)) hz1 dX11_bound_112 (by decide) ?_
      exact am_ireturn hz dX11_bound_113 h
    · replace h := h.2 c2
      refine am_iconst (v := (-1)) hz1 dX11_bound_22 (by decide) ?_
      exact am_ireturn hz dX11_bound_23 h
set_option maxRecDepth 100000 in
set_option maxHeartbeats 4000000 in
theorem c_X11_bound {l : Launch} {D : va_G} {B : Heap} {G : amG} {I : amI} {L : amL}  (hG : Lay G)  (v1 : Int32) (v2 : Int32) (v3 : Int32) {s : St} (hs : CO s G I L) (hw : WF s) : Mx l D B yX11_bound cX11_bound 4 (some .int) 3 0 0 [.ref (B.size + 0), .int v1, .int v2, .int v3] G I L (fun r G1 I1 L1 => r = some (.int (aBound s v1 v2 v3)) ∧ G1 = G ∧ CO s G I1 L1 ∧ frK I L I1 L1) := by
  refine Mx.of (by decide) rfl rfl (fun z e1 e2 e3 hz => ?_)
  subst e1; subst e2; subst e3
  refine b_X11_bound_0 hz hG ?_
  have hO := hs.2.1.1
  have h16 := hO.2.2.1
  rw [hO.hasB, hO.hasB]
  refine ⟨fun h => ⟨by rw [aBound, if_neg (by rw [h]; simp)], rfl, hs, frK_r⟩, fun h => ⟨fun h2 => ?_, fun h2 => ⟨by rw [aBound, if_neg (by rw [h2]; simp)], rfl, hs, frK_r⟩⟩⟩
  obtain ⟨x, hx, rfl⟩ := (el_t (by omega)).mp h
  obtain ⟨y, hy, rfl⟩ := (el_t (by omega)).mp h2
  have ex : (nI x).toNatClampNeg = x := cl_nI (by omega)
  have ey : (nI y).toNatClampNeg = y := cl_nI (by omega)
  refine ⟨fun q => ⟨hO.sz, hO.sz, hO.sz, ?_, rfl, hs, frK_r⟩, fun q => ⟨hO.sz, hO.sz, hO.sz, ?_, rfl, hs, frK_r⟩, fun q => ⟨hO.sz, ?_, rfl, hs, frK_r⟩, fun q => ⟨?_, rfl, hs, frK_r⟩⟩
  · subst q; rw [aBound, if_pos (by rw [h, h2]; rfl), if_pos rfl, ex, ey, hO.from hx, hO.from hy, hO.least]
  · subst q; rw [aBound, if_pos (by rw [h, h2]; rfl), if_neg (by decide), if_pos rfl, ex, ey, hO.upTo hx, hO.upTo hy, hO.great]
  · subst q; rw [aBound, if_pos (by rw [h, h2]; rfl), if_neg (by decide), if_neg (by decide), if_pos rfl, ex, ey, hO.btw hx hy]
  · have e : v3 ≠ 0 ∧ v3 ≠ 1 ∧ v3 ≠ 2 := by
      refine ⟨?_, ?_, ?_⟩ <;> (rintro rfl; exact absurd q (by decide))
    rw [aBound, if_pos (by rw [h, h2]; rfl), if_neg e.1, if_neg e.2.1, if_neg e.2.2]
