/-! WHAT BOTH OBJECTS STAND FOR: an order, functions, data, a map; shelves; a tape; what can be undone -/
abbrev Row : Type := Nat × (Nat → Int32) × (Nat → Int64) × (Nat → Int64) × (Nat → Int32) × Int32
abbrev rN (r : Row) : Nat := r.1
abbrev rA (r : Row) : Nat → Int32 := r.2.1
abbrev rF (r : Row) : Nat → Int64 := r.2.2.1
abbrev rD (r : Row) : Nat → Int64 := r.2.2.2.1
abbrev rP (r : Row) : Nat → Int32 := r.2.2.2.2.1
abbrev rE (r : Row) : Int32 := r.2.2.2.2.2
abbrev Shf : Type := Nat × (Nat → Int32)
abbrev St : Type := Row × Shf × Shf × Int32 × (Nat × (Nat → Int32)) × (Nat × (Nat → Row))
abbrev sC (s : St) : Row := s.1
abbrev s0 (s : St) : Shf := s.2.1
abbrev s1 (s : St) : Shf := s.2.2.1
abbrev sE (s : St) : Int32 := s.2.2.2.1
abbrev sT (s : St) : Nat × (Nat → Int32) := s.2.2.2.2.1
abbrev sH (s : St) : Nat × (Nat → Row) := s.2.2.2.2.2
def RowM (f : Nat → Int64) (r : Row) : Prop := (1 ≤ rN r ∧ rN r ≤ 16 ∧ PO (rN r) (rA r) ∧ f 0 = lN (rN r) ∧ (∀ a, a < rN r → f (1 + a) = (upS (rA r) a).toInt64) ∧ ∀ a, rN r ≤ a → a < 16 → f (1 + a) = 0) ∧ (∀ k, k < 1024 → f (17 + k) = rF r k) ∧ (∀ a, a < 16 → f (1041 + a) = rD r a) ∧ (∀ x, x < 16 → f (1057 + x) = (rP r x).toInt64) ∧ f 1073 = (rE r).toInt64
theorem RowM.mo {L : amL} {r : Row} (h : RowM (L 65) r) : MO L (rN r) (rA r) := h.1
theorem RowM_c {f g : Nat → Int64} {r : Row} (h : RowM f r) (e : ∀ k, k < 1074 → g k = f k) : RowM g r := by
  obtain ⟨⟨h1, h2, h3, h4, h5, h6⟩, h7, h8, h9, h10⟩ := h
  exact ⟨⟨h1, h2, h3, by rw [e 0 (by omega)]; exact h4, fun a ha => by rw [e _ (by omega)]; exact h5 a ha, fun a ha hb => by rw [e _ (by omega)]; exact h6 a ha hb⟩, fun k hk => by rw [e _ (by omega)]; exact h7 k hk, fun a ha => by rw [e _ (by omega)]; exact h8 a ha, fun a ha => by rw [e _ (by omega)]; exact h9 a ha, by rw [e _ (by omega)]; exact h10⟩
/-- what holds of the values of a row -/
def WFr (k0 : Nat) (ep : Int32) (r : Row) : Prop := (1 ≤ rN r ∧ rN r ≤ 16 ∧ PO (rN r) (rA r)) ∧ (∀ q x y, q < 4 → x < 16 → y < 16 → ¬ (x < rN r ∧ y < rN r ∧ le (rA r) x y = true) → rF r (256 * q + 16 * x + y) = 0) ∧ (rE r = ep → ∀ x, x < 16 → rP r x = -1 ∨ ∃ y, y < k0 ∧ rP r x = nI y) ∧ ∀ x, rN r ≤ x → x < 16 → rA r x = 0
def WF (s : St) : Prop := WFr (s0 s).1 (sE s) (sC s) ∧ rE (sC s) = sE s ∧ (s0 s).1 ≤ 16 ∧ (s1 s).1 ≤ 16 ∧ (1 ≤ (s0 s).1 → PO (s0 s).1 (s0 s).2) ∧ (1 ≤ (s1 s).1 → PO (s1 s).1 (s1 s).2) ∧ (sT s).1 ≤ 120 ∧ (∀ i, i < (sT s).1 → ∃ b, b < 256 ∧ (sT s).2 i = nI b) ∧ (sH s).1 ≤ 8 ∧ ∀ j, j < (sH s).1 → WFr (s0 s).1 (sE s) ((sH s).2 j)
def shM (I : amI) (j : Nat) (h : Shf) : Prop := (h.1 = 0 ∧ I 67 j = 0) ∨ KO I j h.1 h.2
/-- the reference stands for s -/
def RI (s : St) (I : amI) (L : amL) : Prop :=
  RowM (L 65) (sC s) ∧ I 64 5 = sE s ∧ shM I 0 (s0 s) ∧ shM I 1 (s1 s) ∧ I 64 7 = nI (sT s).1 ∧ (∀ i, i < (sT s).1 → I 69 i &&& 255 = (sT s).2 i) ∧ I 64 2 = nI (sH s).1 ∧ (∀ j, j < (sH s).1 → RowM (fun k => L 66 (1074 * j + k)) ((sH s).2 j)) ∧ (I 64 24 = 0 ∨ TyK I (rN (sC s)) (rA (sC s)))
/-- what is not the reference's stays -/
def frM (I : amI) (L : amL) (I1 : amI) (L1 : amL) : Prop := ∀ p, (p < 64 ∨ 85 ≤ p) → I1 p = I p ∧ L1 p = L p
theorem frM_r {I : amI} {L : amL} : frM I L I L := fun _ _ => ⟨rfl, rfl⟩
theorem frM_t {I I1 I2 : amI} {L L1 L2 : amL} (h : frM I L I1 L1) (h2 : frM I1 L1 I2 L2) : frM I L I2 L2 := fun p hp => ⟨by rw [(h2 p hp).1, (h p hp).1], by rw [(h2 p hp).2, (h p hp).2]⟩
theorem frM_I {I : amI} {L : amL} {p : Nat} {f : Nat → Int32} (h1 : 64 ≤ p) (h2 : p < 85) : frM I L (setI I p f) L := fun q hq => ⟨setI_n (by omega), rfl⟩
theorem frM_L {I : amI} {L : amL} {p : Nat} {f : Nat → Int64} (h1 : 64 ≤ p) (h2 : p < 85) : frM I L I (setL L p f) := fun q hq => ⟨rfl, setL_n (by omega)⟩
theorem shM_c {I I1 : amI} {j : Nat} {h : Shf} (e1 : I1 67 = I 67) (e2 : I1 68 = I 68) (hs : shM I j h) : shM I1 j h := by
  unfold shM KO at hs ⊢
  rw [e1, e2]
  exact hs
theorem TyK_c {I I1 : amI} {n : Nat} {A : Nat → Int32} (e1 : I1 64 24 = I 64 24) (e2 : I1 64 25 = I 64 25) (e3 : I1 80 = I 80) (e4 : I1 81 = I 81) (h : I 64 24 = 0 ∨ TyK I n A) : I1 64 24 = 0 ∨ TyK I1 n A := by
  unfold TyK TyM at h ⊢
  rw [e1, e2, e3, e4]
  exact h
/-- rows that are worked in do not matter -/
theorem RI_c {s : St} {I I1 : amI} {L L1 : amL} (h : RI s I L) (e65 : L1 65 = L 65) (e66 : L1 66 = L 66) (e67 : I1 67 = I 67) (e68 : I1 68 = I 68) (e69 : I1 69 = I 69) (e2 : I1 64 2 = I 64 2) (e5 : I1 64 5 = I 64 5) (e7 : I1 64 7 = I 64 7) (hT : I1 64 24 = 0 ∨ TyK I1 (rN (sC s)) (rA (sC s))) : RI s I1 L1 := by
  obtain ⟨h1, h2, h3, h4, h5, h6, h7, h8, _⟩ := h
  refine ⟨by rw [e65]; exact h1, by rw [e5]; exact h2, shM_c e67 e68 h3, shM_c e67 e68 h4, by rw [e7]; exact h5, by rw [e69]; exact h6, by rw [e2]; exact h7, ?_, hT⟩
  intro j hj
  rw [e66]
  exact h8 j hj
theorem RI_L {s : St} {I : amI} {L L1 : amL} (h : RI s I L) (e65 : L1 65 = L 65) (e66 : L1 66 = L 66) : RI s I L1 := RI_c h e65 e66 rfl rfl rfl rfl rfl rfl h.2.2.2.2.2.2.2.2
theorem RI_I {s : St} {I : amI} {L : amL} {p : Nat} {f : Nat → Int32} (h : RI s I L) (h1 : 70 ≤ p) (h2 : p ≠ 80) (h3 : p ≠ 81) : RI s (setI I p f) L :=
  RI_c h rfl rfl (setI_n (by omega)) (setI_n (by omega)) (setI_n (by omega)) (by rw [setI_n (by omega)]) (by rw [setI_n (by omega)]) (by rw [setI_n (by omega)]) (TyK_c (by rw [setI_n (by omega)]) (by rw [setI_n (by omega)]) (setI_n (Ne.symm h2)) (setI_n (Ne.symm h3)) h.2.2.2.2.2.2.2.2)
theorem RI_T {s : St} {I I1 : amI} {L : amL} (h : RI s I L) (hf : frT I I1) (hk : TyK I1 (rN (sC s)) (rA (sC s))) : RI s I1 L :=
  RI_c h rfl rfl (hf.1 67 (by decide) (by decide) (by decide) (by decide) (by decide)) (hf.1 68 (by decide) (by decide) (by decide) (by decide) (by decide)) (hf.1 69 (by decide) (by decide) (by decide) (by decide) (by decide)) (hf.2 2 (by decide) (by decide) (by decide) (by decide)) (hf.2 5 (by decide) (by decide) (by decide) (by decide)) (hf.2 7 (by decide) (by decide) (by decide) (by decide)) (Or.inr hk)
theorem frT_M {I I1 : amI} {L : amL} (hf : frT I I1) : frM I L I1 L := fun p hp => ⟨hf.1 p (by omega) (by omega) (by omega) (by omega) (by omega), rfl⟩
theorem chn_RI {s : St} {I : amI} {L L1 : amL} (h : RI s I L) (hc : chnF L L1) : RI s I L1 := RI_L h (hc 65 (by decide) (by decide)) (hc 66 (by decide) (by decide))
theorem chn_fr {I : amI} {L L1 : amL} (hc : chnF L L1) : frM I L I L1 := fun p hp => ⟨rfl, hc p (by omega) (by omega)⟩
/-! elements, intervals, as numbers come in -/
def elB (n : Nat) (a : Int32) : Bool := decide (0 ≤ a) && decide (a < nI n)
def ivB (n : Nat) (A : Nat → Int32) (a b : Int32) : Bool := elB n a && (elB n b && le A a.toNatClampNeg b.toNatClampNeg)
def inR (k : Nat) (a : Int32) : Bool := decide (0 ≤ a) && decide (a ≤ nI k)
theorem el_t {n : Nat} {a : Int32} (hn : n < 2 ^ 31) : elB n a = true ↔ ∃ x, x < n ∧ a = nI x := by
  rw [elB, Bool.and_eq_true, decide_eq_true_eq, decide_eq_true_eq]
  constructor
  · rintro ⟨h1, h2⟩
    have h0 : ¬ a < 0 := by rw [Int32.not_lt]; exact h1
    obtain ⟨j, hj, rfl⟩ := nI_of h0
    exact ⟨j, (nI_ltI hj hn).mp h2, rfl⟩
  · rintro ⟨x, hx, rfl⟩
    exact ⟨nI_pos' (by omega), nI_lt hx hn⟩
theorem inR_t {k : Nat} {a : Int32} (hk : k + 1 < 2 ^ 31) : inR k a = true ↔ ∃ x, x ≤ k ∧ a = nI x := by
  rw [inR, Bool.and_eq_true, decide_eq_true_eq, decide_eq_true_eq]
  constructor
  · rintro ⟨h1, h2⟩
    have h0 : ¬ a < 0 := by rw [Int32.not_lt]; exact h1
    obtain ⟨j, hj, rfl⟩ := nI_of h0
    exact ⟨j, (nI_leI hj (by omega)).mp h2, rfl⟩
  · rintro ⟨x, hx, rfl⟩
    exact ⟨nI_pos' (by omega), nI_le hx (by omega)⟩
theorem isIn_R {k : Nat} {a : Int32} {K : Int64} (hk : k < 2 ^ 31) (hK : K.toInt = (k : Int)) : m_isIn a.toInt64 0 K = inR k a := by
  rw [m_isIn, inR]
  congr 1
  · apply decide_eq_decide.mpr
    rw [Int64.lt_iff_toInt_lt, Int32.toInt_toInt64, Int32.le_iff_toInt_le]
    simp
  · apply decide_eq_decide.mpr
    rw [Int64.lt_iff_toInt_lt, Int32.toInt_toInt64, hK, Int32.le_iff_toInt_le, nI_toInt hk]
    omega
theorem MO.el {L : amL} {n : Nat} {A : Nat → Int32} (h : MO L n A) (a : Int32) : m_el L a = elB n a := by
  have h1 := h.1
  have h16 := h.2.1
  obtain ⟨m, rfl⟩ : ∃ j, n = j + 1 := ⟨n - 1, by omega⟩
  rw [m_el, h.many, nI_pred, isIn_R (k := m) (by omega) (by rw [Int32.toInt_toInt64, nI_toInt (by omega)]), inR, elB]
  congr 1
  apply decide_eq_decide.mpr
  rw [Int32.le_iff_toInt_le, Int32.lt_iff_toInt_lt, nI_toInt (by omega), nI_toInt (by omega)]
  omega
theorem MO.isiv {L : amL} {n : Nat} {A : Nat → Int32} (h : MO L n A) (a b : Int32) : m_isiv L a b = ivB n A a b := by
  have h16 := h.2.1
  rw [m_isiv, h.el, h.el, ivB]
  cases ea : elB n a
  · rfl
  · cases eb : elB n b
    · rfl
    · obtain ⟨x, hx, rfl⟩ := (el_t (by omega)).mp ea
      obtain ⟨y, hy, rfl⟩ := (el_t (by omega)).mp eb
      rw [h.am hx (by omega), cl_nI (by omega), cl_nI (by omega)]
theorem iv_t {n : Nat} {A : Nat → Int32} {a b : Int32} (h16 : n ≤ 16) : ivB n A a b = true ↔ ∃ x y, x < n ∧ y < n ∧ a = nI x ∧ b = nI y ∧ le A x y = true := by
  rw [ivB, Bool.and_eq_true, Bool.and_eq_true, el_t (by omega), el_t (by omega)]
  constructor
  · rintro ⟨⟨x, hx, rfl⟩, ⟨y, hy, rfl⟩, h⟩
    rw [cl_nI (by omega), cl_nI (by omega)] at h
    exact ⟨x, y, hx, hy, rfl, rfl, h⟩
  · rintro ⟨x, y, hx, hy, rfl, rfl, h⟩
    exact ⟨⟨x, hx, rfl⟩, ⟨y, hy, rfl⟩, by rw [cl_nI (by omega), cl_nI (by omega)]; exact h⟩
theorem OI.hasB {I : amI} {o n : Nat} {A : Nat → Int32} (h : OI I o n A) (a : Int32) : q_has I o a = elB n a := by rw [q_has, elB, h.1]
theorem OI.amB {I : amI} {o n : Nat} {A : Nat → Int32} (h : OI I o n A) (a b : Int32) : q_atMost I o a b = ivB n A a b := by
  have h16 := h.2.2.1
  rw [q_atMost, h.hasB, ivB]
  cases ea : elB n a
  · rfl
  · obtain ⟨x, hx, rfl⟩ := (el_t (by omega)).mp ea
    rw [Bool.true_and, Bool.true_and]
    cases eb : elB n b
    · rw [q_isBelow, h.hasB, h.hasB, ea, eb, decide_eq_false (fun e => by rw [← e, ea] at eb; cases eb)]; rfl
    · obtain ⟨y, hy, rfl⟩ := (el_t (by omega)).mp eb
      have := h.am hx hy
      rw [q_atMost, h.hasB, ea, Bool.true_and] at this
      rw [this, Bool.true_and, cl_nI (by omega), cl_nI (by omega)]
