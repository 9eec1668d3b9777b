/-! ORDERS: at most, intervals, their sizes; overflow; tables filled by rank -/
theorem le_rf {A : Nat → Int32} {x : Nat} (hx : x < 32) : le A x x = true := by rw [le_b hx hx]; simp
theorem le_n {n : Nat} {A : Nat → Int32} (hP : PO n A) {x y : Nat} (hx : x < n) (h32 : n ≤ 32) (hy : y < 32) (h : le A x y = true) : y < n := by
  rw [le_b (by omega) hy, Bool.or_eq_true, decide_eq_true_eq] at h
  rcases h with h | h
  · exact hP.1 x hx y hy h
  · omega
theorem le_tr {n : Nat} {A : Nat → Int32} (hP : PO n A) (h32 : n ≤ 32) {x y w : Nat} (hx : x < n) (hy : y < n) (hw : w < n) (h1 : le A x y = true) (h2 : le A y w = true) : le A x w = true := by
  rw [le_b (by omega) (by omega), Bool.or_eq_true, decide_eq_true_eq] at h1 h2 ⊢
  rcases h1 with h1 | h1
  · rcases h2 with h2 | h2
    · exact Or.inl (hP.2.2 x y w hx hy hw h1 h2)
    · subst h2; exact Or.inl h1
  · subst h1; exact h2
theorem le_as {n : Nat} {A : Nat → Int32} (hP : PO n A) (h32 : n ≤ 32) {x y : Nat} (hx : x < n) (hy : y < n) (h1 : le A x y = true) (h2 : le A y x = true) : x = y := by
  rw [le_b (by omega) (by omega), Bool.or_eq_true, decide_eq_true_eq] at h1 h2
  rcases h1 with h1 | h1
  · rcases h2 with h2 | h2
    · have := hP.2.2 x y x hx hy hx h1 h2
      rw [hP.2.1 x hx] at this
      cases this
    · exact h2
  · exact h1.symm
theorem lt_le {A : Nat → Int32} {x y : Nat} (hx : x < 32) (hy : y < 32) (h : bt (A x) y = true) : le A x y = true := by rw [le_b hx hy, h]; rfl
theorem lt_b {n : Nat} {A : Nat → Int32} (hP : PO n A) (h32 : n ≤ 32) {x y : Nat} (hx : x < n) (hy : y < n) : bt (A x) y = (decide (¬ x = y) && le A x y) := by
  rw [le_b (by omega) (by omega)]
  by_cases e : x = y
  · subst e; simp [hP.2.1 x hx]
  · simp [e, Ne.symm e]
theorem up_b {A : Nat → Int32} {a x : Nat} : bt (upS A a) x = le A a x := rfl
theorem dn_b {n : Nat} {A : Nat → Int32} (h32 : n ≤ 32) {b x : Nat} (hb : b < n) (hx : x < 32) : bt (dnS n A b) x = (decide (x < n) && le A x b) := by
  rw [dnS, b_or, bn_bt h32 hx, b_one b (by omega) hx]
  by_cases h : x < n
  · rw [le_b hx (by omega), decide_eq_true h, Bool.true_and, Bool.true_and]
    congr 1
    exact decide_eq_decide.mpr ⟨Eq.symm, Eq.symm⟩
  · rw [decide_eq_false h, decide_eq_false (show ¬ x = b by omega)]; rfl
def ivS (n : Nat) (A : Nat → Int32) (a b : Nat) : Int32 := upS A a &&& dnS n A b
theorem iv_b {n : Nat} {A : Nat → Int32} (h32 : n ≤ 32) {a b x : Nat} (hb : b < n) (hx : x < 32) : bt (ivS n A a b) x = (decide (x < n) && (le A a x && le A x b)) := by
  rw [ivS, b_and, dn_b h32 hb hx, up_b]
  cases le A a x <;> cases le A x b <;> cases decide (x < n) <;> rfl
theorem iv_16 {n : Nat} {A : Nat → Int32} (h16 : n ≤ 16) {a b : Nat} (hb : b < n) : s16 (ivS n A a b) := by
  intro i h1 h2
  rw [iv_b (by omega) hb h2, decide_eq_false (by omega), Bool.false_and]
theorem MO.dn {L : amL} {n : Nat} {A : Nat → Int32} (h : MO L n A) {b : Nat} (hb : b < n) : m_dn L (nI b) = dnS n A b := by
  have h16 := h.2.1
  apply b_ext
  intro i hi
  rw [m_dn, h.N, b_mk _ n (by omega) i hi, dn_b (by omega) hb hi]
  by_cases e : i < n
  · rw [h.am e (by omega)]
  · rw [decide_eq_false e]; rfl
theorem MO.iv {L : amL} {n : Nat} {A : Nat → Int32} (h : MO L n A) {a b : Nat} (ha : a < n) (hb : b < n) : m_iv L (nI a) (nI b) = ivS n A a b := by
  have h16 := h.2.1
  rw [m_iv, h.am ha (by omega), h.up ha, h.dn hb]
  by_cases e : le A a b = true
  · rw [if_pos e]; rfl
  · rw [if_neg e]
    symm
    rw [b_eq0]
    intro i hi
    rw [iv_b (by omega) hb hi, Bool.eq_false_iff]
    intro g
    rw [Bool.and_eq_true, Bool.and_eq_true, decide_eq_true_eq] at g
    exact e (le_tr h.2.2.1 (by omega) ha g.1 hb g.2.1 g.2.2)
theorem OI.btw {I : amI} {o n : Nat} {A : Nat → Int32} (h : OI I o n A) {a b : Nat} (ha : a < n) (hb : b < n) : q_between I o (nI a) (nI b) = ivS n A a b := by
  rw [q_between, h.from ha, h.upTo hb, ivS]
theorem OI.am {I : amI} {o n : Nat} {A : Nat → Int32} (h : OI I o n A) {a b : Nat} (ha : a < n) (hb : b < n) : q_atMost I o (nI a) (nI b) = le A a b := by
  have h16 := h.2.2.1
  rw [q_atMost, h.has ha, h.below ha hb, le_b (by omega) (by omega), Bool.true_and, Bool.or_comm]
  congr 1
  rw [decide_eq_decide, nI_eq (by omega) (by omega)]
  exact ⟨Eq.symm, Eq.symm⟩
/-- how many lie within -/
def rkS (n : Nat) (A : Nat → Int32) (a b : Nat) : Nat := ct (bt (ivS n A a b)) 16
theorem ct_16 {s : Int32} {n : Nat} (h16 : n ≤ 16) (hs : ∀ i, i < 32 → bt s i = true → i < n) : ct (bt s) 16 = ct (bt s) n := by
  rw [← ct_lim (f := bt s) h16]
  apply ct_cong
  intro i hi
  by_cases h : bt s i = true
  · rw [h, decide_eq_true (hs i (by omega) h)]; rfl
  · rw [Bool.not_eq_true] at h; rw [h, Bool.and_false]
theorem iv_lt {n : Nat} {A : Nat → Int32} (h32 : n ≤ 32) {a b : Nat} (hb : b < n) : ∀ i, i < 32 → bt (ivS n A a b) i = true → i < n := by
  intro i hi h
  rw [iv_b h32 hb hi, Bool.and_eq_true, decide_eq_true_eq] at h
  exact h.1
theorem rk_le {n : Nat} {A : Nat → Int32} (h16 : n ≤ 16) {a b : Nat} (hb : b < n) : rkS n A a b ≤ n := by
  rw [rkS, ct_16 h16 (iv_lt (by omega) hb)]
  exact ct_le _ _
theorem rk_1 {n : Nat} {A : Nat → Int32} (h16 : n ≤ 16) {a b : Nat} (ha : a < n) (hb : b < n) (h : le A a b = true) : 1 ≤ rkS n A a b := by
  have := ct_lt (f := bt (ivS n A a b)) (x := a) (n := 16) (by omega) (by rw [iv_b (by omega) hb (by omega), h, le_rf (by omega), decide_eq_true ha]; rfl)
  rw [rkS]; omega
theorem rk_up {n : Nat} {A : Nat → Int32} (hP : PO n A) (h16 : n ≤ 16) {a x b : Nat} (ha : a < n) (hx : x < n) (hb : b < n) (h1 : le A a x = true) (h2 : le A x b = true) (hne : x ≠ b) : rkS n A a x < rkS n A a b := by
  refine ct_ssub (x := b) (fun i hi h => ?_) (by omega) ?_ ?_
  · rw [iv_b (by omega) hx (by omega), Bool.and_eq_true, Bool.and_eq_true, decide_eq_true_eq] at h
    rw [iv_b (by omega) hb (by omega), decide_eq_true h.1, h.2.1, le_tr hP (by omega) h.1 hx hb h.2.2 h2]; rfl
  · rw [iv_b (by omega) hx (by omega), Bool.eq_false_iff]
    intro h
    rw [Bool.and_eq_true, Bool.and_eq_true, decide_eq_true_eq] at h
    exact hne (le_as hP (by omega) hx hb h2 h.2.2)
  · rw [iv_b (by omega) hb (by omega), decide_eq_true hb, le_tr hP (by omega) ha hx hb h1 h2, le_rf (by omega)]; rfl
theorem rk_dn {n : Nat} {A : Nat → Int32} (hP : PO n A) (h16 : n ≤ 16) {a x b : Nat} (ha : a < n) (hx : x < n) (hb : b < n) (h1 : le A a x = true) (h2 : le A x b = true) (hne : a ≠ x) : rkS n A x b < rkS n A a b := by
  refine ct_ssub (x := a) (fun i hi h => ?_) (by omega) ?_ ?_
  · rw [iv_b (by omega) hb (by omega), Bool.and_eq_true, Bool.and_eq_true, decide_eq_true_eq] at h
    rw [iv_b (by omega) hb (by omega), decide_eq_true h.1, h.2.2, le_tr hP (by omega) ha hx h.1 h1 h.2.1]; rfl
  · rw [iv_b (by omega) hb (by omega), Bool.eq_false_iff]
    intro h
    rw [Bool.and_eq_true, Bool.and_eq_true, decide_eq_true_eq] at h
    exact hne (le_as hP (by omega) ha hx h1 h.2.1)
  · rw [iv_b (by omega) hb (by omega), decide_eq_true ha, le_tr hP (by omega) ha hx hb h1 h2, le_rf (by omega)]; rfl
/-! products too large -/
def q_mtl (a b : Int64) : Bool := !(decide (a = 0) || decide (b = 0)) && ((decide (a = -1) && decide (b = -9223372036854775808)) || ((decide (b = -1) && decide (a = -9223372036854775808)) || decide (¬ (a * b) / b = a)))
theorem mul_div_i {a b : Int64} (ha : a = a.toInt32.toInt64) (hb : b = b.toInt32.toInt64) (h0 : ¬ b = 0) : (a * b) / b = a := by
  have ea : a.toInt = a.toInt32.toInt := by conv => lhs; rw [ha, Int32.toInt_toInt64]
  have eb : b.toInt = b.toInt32.toInt := by conv => lhs; rw [hb, Int32.toInt_toInt64]
  have a1 := a.toInt32.toInt_lt
  have a2 := a.toInt32.le_toInt
  have b1 := b.toInt32.toInt_lt
  have b2 := b.toInt32.le_toInt
  have hb0 : b.toInt ≠ 0 := fun h => h0 (Int64.toInt_inj.mp (by rw [h]; rfl))
  rw [← ea] at a1 a2
  rw [← eb] at b1 b2
  have hm : (a * b).toInt = a.toInt * b.toInt := by
    rw [Int64.toInt_mul]
    have h1 : a.toInt * b.toInt ≤ 2 ^ 62 := by
      have := Int.natAbs_mul a.toInt b.toInt
      have h2 : a.toInt.natAbs ≤ 2 ^ 31 := by omega
      have h3 : b.toInt.natAbs ≤ 2 ^ 31 := by omega
      have h4 := Nat.mul_le_mul h2 h3
      rw [← this] at h4
      omega
    have h1' : -(2 ^ 62) ≤ a.toInt * b.toInt := by
      have := Int.natAbs_mul a.toInt b.toInt
      have h2 : a.toInt.natAbs ≤ 2 ^ 31 := by omega
      have h3 : b.toInt.natAbs ≤ 2 ^ 31 := by omega
      have h4 := Nat.mul_le_mul h2 h3
      rw [← this] at h4
      omega
    apply Int.bmod_eq_of_le <;> omega
  apply Int64.toInt_inj.mp
  rw [Int64.toInt_div, hm, Int.mul_tdiv_cancel _ hb0]
  apply Int.bmod_eq_of_le <;> omega
theorem mtl_tl (a b : Int64) : q_mtl a b = q_tl a b := by
  unfold q_mtl q_tl
  by_cases hb : b = 0
  · simp [hb]
  by_cases ha : a = 0
  · subst ha
    have : (0 : Int64) * b / b = 0 := by rw [Int64.zero_mul]; exact Int64.zero_div
    simp [hb, this]
  by_cases hf : a = a.toInt32.toInt64 ∧ b = b.toInt32.toInt64
  · have hd := mul_div_i hf.1 hf.2 hb
    have n1 : ¬ b = -9223372036854775808 := fun e => by rw [e] at hf; exact absurd hf.2 (by decide)
    have n2 : ¬ a = -9223372036854775808 := fun e => by rw [e] at hf; exact absurd hf.1 (by decide)
    rw [decide_eq_true hf.1, decide_eq_true hf.2]
    simp [hd, n1, n2]
  · have hl : (decide (a = a.toInt32.toInt64) && decide (b = b.toInt32.toInt64)) = false := by
      rw [Bool.eq_false_iff]
      intro h
      rw [Bool.and_eq_true, decide_eq_true_eq, decide_eq_true_eq] at h
      exact hf h
    rw [hl]
    by_cases h1 : b = -1
    · subst h1
      have hdiv : ¬ a = -9223372036854775808 → (a * -1) / -1 = a := by
        intro hm
        have hm' : a.toInt ≠ -9223372036854775808 := fun e => hm (Int64.toInt_inj.mp (by rw [e]; rfl))
        have a1 := a.toInt_lt
        have a2 := a.le_toInt
        have e1 : (a * -1).toInt = -a.toInt := by
          rw [Int64.toInt_mul, show (-1 : Int64).toInt = -1 from by decide]
          rw [Int.mul_neg, Int.mul_one]
          apply Int.bmod_eq_of_le <;> omega
        apply Int64.toInt_inj.mp
        rw [Int64.toInt_div, e1, show (-1 : Int64).toInt = -1 from by decide]
        rw [Int.tdiv_neg, Int.tdiv_one, Int.neg_neg]
        apply Int.bmod_eq_of_le <;> omega
      by_cases hm : a = -9223372036854775808
      · subst hm; decide
      · simp [ha, hm, hdiv hm]
    · by_cases h2 : a = -1 ∧ b = -9223372036854775808
      · obtain ⟨rfl, rfl⟩ := h2
        decide
      · have h3 : (decide (a = -1) && decide (b = -9223372036854775808)) = false := by
          rw [Bool.eq_false_iff]
          intro h
          rw [Bool.and_eq_true, decide_eq_true_eq, decide_eq_true_eq] at h
          exact h2 h
        rw [h3]
        simp [ha, hb, h1]
def oI (I : amI) (c : Bool) : amI := if c = true then setI I 64 (upd (I 64) 15 1) else I
theorem oI_f {I : amI} : oI I false = I := rfl
theorem oI_o {I : amI} {c : Bool} {q : Nat} (h : q ≠ 64) : oI I c q = I q := by
  unfold oI
  split
  · rw [setI_n h]
  · rfl
theorem oI_64 {I : amI} {c : Bool} {k : Nat} (h : k ≠ 15) : oI I c 64 k = I 64 k := by
  unfold oI
  split
  · rw [setI_s, upd_n h]
  · rfl
theorem oI_oI {I : amI} {b c : Bool} : oI (oI I b) c = oI I (b || c) := by
  cases b
  · rfl
  · cases c
    · rfl
    · show setI (setI I 64 (upd (I 64) 15 1)) 64 (upd ((setI I 64 (upd (I 64) 15 1)) 64) 15 1) = setI I 64 (upd (I 64) 15 1)
      rw [setI_ss, setI_s, upd_upd]
theorem oI_v {I : amI} {b c : Bool} (h : I 64 15 = bI b) : oI I c 64 15 = bI (b || c) := by
  unfold oI
  cases c
  · rw [if_neg (by decide), h, Bool.or_false]
  · rw [if_pos rfl, setI_s, upd_s, Bool.or_true]; rfl
theorem sumC_S {f : Nat → Int64} {s : Int32} : ∀ n, sumC (bt s) f n = sumS f s n
  | 0 => rfl
  | n + 1 => by rw [sumC, sumS, sumC_S n]
/-! a table of pairs, filled by rank -/
abbrev vis (rank : Nat → Nat → Nat) (N a b x y : Nat) : Prop := rank x y < N ∨ rank x y = N ∧ (x < a ∨ x = a ∧ y < b)
def RK (n : Nat) (c : Nat → Nat → Bool) (rank : Nat → Nat → Nat) (V : Nat → Nat → Int64) (Fl : Nat → Nat → Bool) (N a b : Nat) (f : Nat → Int64) (g : Bool) : Prop :=
  (∀ x y, x < 16 → y < 16 → f (16 * x + y) = if (x < n ∧ y < n ∧ c x y = true ∧ vis rank N a b x y) then V x y else 0) ∧ (g = true ↔ ∃ x y, x < n ∧ y < n ∧ c x y = true ∧ vis rank N a b x y ∧ Fl x y = true)
section RKs
variable {n : Nat} {c : Nat → Nat → Bool} {rank : Nat → Nat → Nat} {V : Nat → Nat → Int64} {Fl : Nat → Nat → Bool} {N a b : Nat} {f : Nat → Int64} {g : Bool}
theorem RK_0 (h1 : ∀ x y, x < n → y < n → c x y = true → 1 ≤ rank x y) : RK n c rank V Fl 1 0 0 (wr f 0 256 (fun _ => 0)) false := by
  refine ⟨fun x y hx hy => ?_, ⟨fun h => absurd h Bool.false_ne_true, fun ⟨x, y, hx, hy, hc, hv, _⟩ => ?_⟩⟩
  · rw [wr_in (by omega), if_neg]
    rintro ⟨hx, hy, hc, hv⟩
    have := h1 x y hx hy hc
    rcases hv with hv | hv
    · omega
    · omega
  · have := h1 x y hx hy hc
    rcases hv with hv | hv
    · omega
    · omega
theorem RK_c {N' a' b' : Nat} (h : RK n c rank V Fl N a b f g) (e : ∀ x y, x < n → y < n → c x y = true → (vis rank N a b x y ↔ vis rank N' a' b' x y)) : RK n c rank V Fl N' a' b' f g := by
  refine ⟨fun x y hx hy => ?_, h.2.trans ⟨fun ⟨x, y, hx, hy, hc, hv, hf⟩ => ⟨x, y, hx, hy, hc, (e x y hx hy hc).mp hv, hf⟩, fun ⟨x, y, hx, hy, hc, hv, hf⟩ => ⟨x, y, hx, hy, hc, (e x y hx hy hc).mpr hv, hf⟩⟩⟩
  rw [h.1 x y hx hy]
  by_cases hh : x < n ∧ y < n ∧ c x y = true ∧ vis rank N a b x y
  · rw [if_pos hh, if_pos ⟨hh.1, hh.2.1, hh.2.2.1, (e x y hh.1 hh.2.1 hh.2.2.1).mp hh.2.2.2⟩]
  · rw [if_neg hh, if_neg (fun k => hh ⟨k.1, k.2.1, k.2.2.1, (e x y k.1 k.2.1 k.2.2.1).mpr k.2.2.2⟩)]
theorem RK_n (h : RK n c rank V Fl N a b f g) (hn : c a b = true → rank a b ≠ N) : RK n c rank V Fl N a (b + 1) f g := by
  refine RK_c h (fun x y hx hy hc => ?_)
  unfold vis
  by_cases e : x = a ∧ y = b
  · obtain ⟨rfl, rfl⟩ := e
    have := hn hc
    omega
  · omega
theorem RK_row (h : RK n c rank V Fl N a n f g) : RK n c rank V Fl N (a + 1) 0 f g := by
  refine RK_c h (fun x y hx hy hc => ?_)
  unfold vis
  omega
theorem RK_blk (h : RK n c rank V Fl N n 0 f g) : RK n c rank V Fl (N + 1) 0 0 f g := by
  refine RK_c h (fun x y hx hy hc => ?_)
  unfold vis
  omega
theorem RK_s {v : Int64} (h16 : n ≤ 16) (h : RK n c rank V Fl N a b f g) (ha : a < n) (hb : b < n) (hc : c a b = true) (hr : rank a b = N) (hv : v = V a b) : RK n c rank V Fl N a (b + 1) (vp_updL f (16 * a + b) v) (g || Fl a b) := by
  refine ⟨fun x y hx hy => ?_, ?_⟩
  · by_cases e : x = a ∧ y = b
    · obtain ⟨rfl, rfl⟩ := e
      rw [updL_s, if_pos ⟨ha, hb, hc, Or.inr ⟨hr, Or.inr ⟨rfl, Nat.lt_succ_self _⟩⟩⟩, hv]
    · rw [updL_n (by omega), h.1 x y hx hy]
      have : vis rank N a b x y ↔ vis rank N a (b + 1) x y := by unfold vis; omega
      by_cases hh : x < n ∧ y < n ∧ c x y = true ∧ vis rank N a b x y
      · rw [if_pos hh, if_pos ⟨hh.1, hh.2.1, hh.2.2.1, this.mp hh.2.2.2⟩]
      · rw [if_neg hh, if_neg (fun k => hh ⟨k.1, k.2.1, k.2.2.1, this.mpr k.2.2.2⟩)]
  · rw [Bool.or_eq_true, h.2]
    constructor
    · rintro (⟨x, y, hx, hy, hc, hv, hf⟩ | hf)
      · exact ⟨x, y, hx, hy, hc, by unfold vis at hv ⊢; omega, hf⟩
      · exact ⟨a, b, ha, hb, hc, by unfold vis; omega, hf⟩
    · rintro ⟨x, y, hx, hy, hc, hv, hf⟩
      by_cases e : x = a ∧ y = b
      · obtain ⟨rfl, rfl⟩ := e
        exact Or.inr hf
      · exact Or.inl ⟨x, y, hx, hy, hc, by unfold vis at hv ⊢; omega, hf⟩
theorem RK_end (h : RK n c rank V Fl (n + 1) 0 0 f g) (h1 : ∀ x y, x < n → y < n → c x y = true → rank x y ≤ n) : KV (fun x y => if c x y = true then V x y else 0) n f ∧ (g = true ↔ ∃ x y, x < n ∧ y < n ∧ c x y = true ∧ Fl x y = true) := by
  refine ⟨fun x y hx hy => ?_, h.2.trans ⟨fun ⟨x, y, hx, hy, hc, hv, hf⟩ => ⟨x, y, hx, hy, hc, hf⟩, fun ⟨x, y, hx, hy, hc, hf⟩ => ⟨x, y, hx, hy, hc, Or.inl (by have := h1 x y hx hy hc; omega), hf⟩⟩⟩
  rw [h.1 x y hx hy]
  by_cases hh : x < n ∧ y < n
  · rw [if_pos hh]
    show _ = (if c x y = true then V x y else 0)
    by_cases hc : c x y = true
    · rw [if_pos hc, if_pos ⟨hh.1, hh.2, hc, Or.inl (by have := h1 x y hh.1 hh.2 hc; omega)⟩]
    · rw [if_neg hc, if_neg (fun k => hc k.2.2.1)]
  · rw [if_neg hh, if_neg (fun k => hh ⟨k.1, k.2.1⟩)]
theorem RK_get (h16 : n ≤ 16) (h : RK n c rank V Fl N a b f g) {x y : Nat} (hx : x < n) (hy : y < n) (hc : c x y = true) (hr : rank x y < N) : f (16 * x + y) = V x y := by
  rw [h.1 x y (by omega) (by omega), if_pos ⟨hx, hy, hc, Or.inl hr⟩]
end RKs
