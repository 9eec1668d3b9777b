/-! WHAT HOLDS OF ALL THAT IS STOOD FOR -/
def WI (s : St) (c : Nat) : Prop := WF s ∧ WZ s ∧ ∃ e, e ≤ c ∧ sE s = nI e ∧ ∀ j, j < (sH s).1 → ∃ e', e' ≤ e ∧ rE ((sH s).2 j) = nI e'
theorem WI_m {s : St} {c c' : Nat} (h : WI s c) (hc : c ≤ c') : WI s c' := by
  obtain ⟨a, b, e, e1, e2⟩ := h
  exact ⟨a, b, e, by omega, e2⟩
theorem byte_n (x : Int32) : ∃ b, b < 256 ∧ x &&& 255 = nI b := by
  have hb : ∀ i, i < 32 → bt (x &&& 255) i = (bt x i && decide (i < 8)) := fun i hi => by rw [b_and, show (255 : Int32) = nI 255 from rfl, bt_nI 255 i hi, show (255 : Nat) = 2 ^ 8 - 1 from rfl, Nat.testBit_two_pow_sub_one]
  obtain ⟨k, hk, e, hbits⟩ := set16 (x := x &&& 255) (fun i h1 h2 => by rw [hb i h2, decide_eq_false (by omega), Bool.and_false])
  refine ⟨k, Nat.lt_pow_two_of_testBit (n := 8) k (fun i hi => ?_), e⟩
  by_cases h32 : i < 32
  · rw [hbits i h32, hb i h32, decide_eq_false (by omega), Bool.and_false]
  · exact Nat.testBit_lt_two_pow (Nat.lt_of_lt_of_le hk (Nat.pow_le_pow_right (n := 2) (by decide) (show 16 ≤ i by omega)))
theorem WI_act {s : St} {r : Row} {c : Nat} (h : WI s c) (h1 : WFr (s0 s).1 (sE s) r) (h2 : WZr r) (h3 : rE r = sE s) : WI (withC (pushS s) r) c := by
  obtain ⟨⟨w1, w2, w3, w4, w5, w6, w7, w8, w9, w10⟩, ⟨z1, z2⟩, e, e1, e2, e3⟩ := h
  have hp : ∀ P : Row → Prop, P (sC s) → (∀ j, j < (sH s).1 → P ((sH s).2 j)) → ∀ j, j < (pushH s).1 → P ((pushH s).2 j) := fun P p1 p2 j hj => by
    rw [pushH] at hj ⊢
    by_cases q : (sH s).1 = 8
    · rw [if_pos q] at hj ⊢
      have hj : j < 8 := hj
      show P (if j = 7 then sC s else (sH s).2 (j + 1))
      by_cases e : j = 7
      · rw [if_pos e]; exact p1
      · rw [if_neg e]; exact p2 _ (by omega)
    · rw [if_neg q] at hj ⊢
      have hj : j < (sH s).1 + 1 := hj
      show P (if j = (sH s).1 then sC s else (sH s).2 j)
      by_cases e : j = (sH s).1
      · rw [if_pos e]; exact p1
      · rw [if_neg e]; exact p2 _ (by omega)
  refine ⟨⟨h1, h3, w3, w4, w5, w6, w7, w8, ?_, hp (WFr (s0 s).1 (sE s)) w1 w10⟩, ⟨h2, hp WZr z1 z2⟩, e, e1, e2, hp (fun r => ∃ e', e' ≤ e ∧ rE r = nI e') ⟨e, Nat.le_refl _, by rw [w2, e2]⟩ e3⟩
  show (pushH s).1 ≤ 8
  rw [pushH]
  by_cases q : (sH s).1 = 8
  · rw [if_pos q]; exact Nat.le_refl _
  · rw [if_neg q]; show (sH s).1 + 1 ≤ 8; omega
theorem WI_adopt {s : St} {m c : Nat} {A : Nat → Int32} (h : WI s c) (h1 : 1 ≤ m) (h2 : m ≤ 16) (hP : PO m A) (hz : ∀ x, m ≤ x → A x = 0) : WI (adoptS s m A) c :=
  WI_act h ⟨⟨h1, h2, hP⟩, fun _ _ _ _ _ _ _ => rfl, fun _ _ _ => Or.inl rfl, fun x a _ => hz x a⟩ hz rfl
theorem WI_store {s : St} {f c : Nat} {V : Nat → Nat → Int64} (h : WI s c) (hf : f < 4) (hV : ∀ x y, x < rN (sC s) → y < rN (sC s) → le (rA (sC s)) x y = false → V x y = 0) : WI (storeS s f V) c := by
  obtain ⟨w1, w2, w3, w4⟩ := h.1.1
  refine WI_act h ⟨w1, fun q x y hq hx hy hno => ?_, w3, w4⟩ h.2.1.1 h.1.2.1
  show wr (rF (sC s)) (256 * f) 256 (tabF (rN (sC s)) V) (256 * q + 16 * x + y) = 0
  by_cases e : q = f
  · subst e
    rw [wr_in (by omega), tabF, show 256 * q + 16 * x + y - 256 * q = 16 * x + y by omega, show (16 * x + y) / 16 = x by omega, show (16 * x + y) % 16 = y by omega]
    by_cases g : x < rN (sC s) ∧ y < rN (sC s)
    · rw [if_pos g]
      cases hl : le (rA (sC s)) x y
      · exact hV x y g.1 g.2 hl
      · exact absurd ⟨g.1, g.2, hl⟩ hno
    · rw [if_neg g]
  · rw [wr_out (by omega)]
    exact w2 q x y hq hx hy hno
section WX
variable {s : St} {c : Nat}
theorem WI_data (h : WI s c) (e : Int32) (v : Int64) : WI (xData s e v).2 c := by
  rw [xData]
  by_cases h1 : elB (rN (sC s)) e = true
  · rw [if_pos h1]
    by_cases h2 : rD (sC s) e.toNatClampNeg = v
    · rw [if_pos h2]; exact h
    · rw [if_neg h2]; exact WI_act h h.1.1 h.2.1.1 h.1.2.1
  · rw [if_neg h1]; exact h
theorem WI_point (h : WI s c) (x y : Int32) : WI (xPoint s x y).2 c := by
  have hk := h.1.2.2.1
  rw [xPoint]
  by_cases h1 : (elB (rN (sC s)) x && elB (s0 s).1 y) = true
  · rw [if_pos h1]
    by_cases h2 : rP (sC s) x.toNatClampNeg = y
    · rw [if_pos h2]; exact h
    · rw [if_neg h2]
      obtain ⟨w1, w2, w3, w4⟩ := h.1.1
      rw [Bool.and_eq_true] at h1
      obtain ⟨k, hk2, hy⟩ := (el_t (by omega)).mp h1.2
      refine WI_act h ⟨w1, w2, fun he a ha => ?_, w4⟩ h.2.1.1 h.1.2.1
      show upd (rP (sC s)) x.toNatClampNeg y a = -1 ∨ ∃ k, k < (s0 s).1 ∧ upd (rP (sC s)) x.toNatClampNeg y a = nI k
      by_cases e : a = x.toNatClampNeg
      · right; exact ⟨k, hk2, by rw [e, upd_s, hy]⟩
      · rw [upd_n e]; exact w3 he a ha
  · rw [if_neg h1]; exact h
theorem WI_put (h : WI s c) (f a b v : Int32) : WI (xPut s f a b v).2 c := by
  have h16 := h.1.1.1.2.1
  rw [xPut]
  by_cases h1 : (inR 3 f && ivB (rN (sC s)) (rA (sC s)) a b) = true
  · rw [if_pos h1]
    rw [Bool.and_eq_true] at h1
    obtain ⟨g, hg, rfl⟩ := fnR h1.1
    obtain ⟨x, y, hx, hy, rfl, rfl, hl⟩ := (iv_t h16).mp h1.2
    rw [cl_nI (by omega), cl_nI (by omega), cl_nI (by omega)]
    by_cases h2 : rF (sC s) (256 * g + 16 * x + y) = v.toInt64
    · rw [if_pos h2]; exact h
    · rw [if_neg h2]
      obtain ⟨w1, w2, w3, w4⟩ := h.1.1
      refine WI_act h ⟨w1, fun q x' y' hq hx' hy' hno => ?_, w3, w4⟩ h.2.1.1 h.1.2.1
      show vp_updL (rF (sC s)) (256 * g + 16 * x + y) v.toInt64 (256 * q + 16 * x' + y') = 0
      by_cases e : 256 * q + 16 * x' + y' = 256 * g + 16 * x + y
      · have e1 : x' = x := by omega
        have e2 : y' = y := by omega
        subst e1; subst e2
        exact absurd ⟨hx, hy, hl⟩ hno
      · rw [updL_n e]; exact w2 q x' y' hq hx' hy' hno
  · rw [if_neg h1]; exact h
theorem WI_make (h : WI s c) (f k : Int32) : WI (xMake s f k).2 c := by
  rw [xMake]
  by_cases h1 : (inR 3 f && inR 6 k) = true
  · rw [if_pos h1]
    rw [Bool.and_eq_true] at h1
    obtain ⟨g, hg, rfl⟩ := fnR h1.1
    rw [cl_nI (by omega)]
    exact WI_store h hg (fun x y _ _ hl => by rw [kdS, if_neg (by rw [hl]; decide)])
  · rw [if_neg h1]; exact h
theorem WI_reckon (h : WI s c) (f x y how : Int32) : WI (xReckon s f x y how).2 c := by
  rw [xReckon]
  by_cases h1 : (inR 3 f && (inR 3 x && (inR 3 y && inR 3 how))) = true
  · rw [if_pos h1]
    rw [Bool.and_eq_true] at h1
    obtain ⟨g, hg, rfl⟩ := fnR h1.1
    rw [cl_nI (n := g) (by omega)]
    split
    · exact h
    · exact WI_store h hg (fun x y _ _ hl => by rw [if_neg (by rw [hl]; decide)])
  · rw [if_neg h1]; exact h
theorem WI_invert (h : WI s c) (f x : Int32) : WI (xInvert s f x).2 c := by
  have h16 := h.1.1.1.2.1
  have hP := h.1.1.1.2.2
  rw [xInvert]
  by_cases h1 : (inR 3 f && inR 3 x) = true
  · rw [if_pos h1]
    rw [Bool.and_eq_true] at h1
    obtain ⟨g, hg, rfl⟩ := fnR h1.1
    rw [cl_nI (n := g) (by omega)]
    split
    · split
      · exact h
      · exact WI_store h hg (fun x y hx hy hl => iv_0 hP (by omega) hx hy hl)
    · exact h
  · rw [if_neg h1]; exact h
theorem WI_raise (h : WI s c) (f x k : Int32) : WI (xRaise s f x k).2 c := by
  rw [xRaise]
  by_cases h1 : (inR 3 f && (inR 3 x && inR 20 k)) = true
  · rw [if_pos h1]
    rw [Bool.and_eq_true] at h1
    obtain ⟨g, hg, rfl⟩ := fnR h1.1
    rw [cl_nI (n := g) (by omega)]
    split
    · exact h
    · refine WI_store h hg (fun x y _ _ hl => ?_)
      cases k.toNatClampNeg with
      | zero => show (if le _ x y = true then _ else _) = _; rw [if_neg (by rw [hl]; decide)]
      | succ j => show (if le _ x y = true then _ else _) = _; rw [if_neg (by rw [hl]; decide)]
  · rw [if_neg h1]; exact h
theorem WI_feed (h : WI s c) (a b d e f : Int32) : WI (xFeed s a b d e f).2 c := by
  rw [xFeed]
  by_cases h1 : (sT s).1 ≤ 100
  · rw [if_pos h1]
    obtain ⟨⟨w1, w2, w3, w4, w5, w6, w7, w8, w9⟩, z, ee⟩ := h
    refine ⟨⟨w1, w2, w3, w4, w5, w6, ?_, fun i hi => ?_, w9⟩, z, ee⟩
    · show (sT s).1 + 20 ≤ 120; omega
    · show ∃ b', b' < 256 ∧ (if i < (sT s).1 then (sT s).2 i else fdB a b d e f (i - (sT s).1) &&& 255) = nI b'
      by_cases q : i < (sT s).1
      · rw [if_pos q]; exact w8 i q
      · rw [if_neg q]; exact byte_n _
  · rw [if_neg h1]; exact h
theorem WI_end (h : WI s c) (n : Int32) : WI (xEnd s n).2 c := by
  have hm := h.1.2.2.2.2.2.2.1
  rw [xEnd]
  by_cases h1 : inR (sT s).1 n = true
  · rw [if_pos h1]
    obtain ⟨k, hk, rfl⟩ := (inR_t (by omega)).mp h1
    obtain ⟨⟨w1, w2, w3, w4, w5, w6, w7, w8, w9⟩, z, ee⟩ := h
    rw [cl_nI (by omega)]
    exact ⟨⟨w1, w2, w3, w4, w5, w6, by show k ≤ 120; omega, fun i (hi : i < k) => w8 i (by omega), w9⟩, z, ee⟩
  · rw [if_neg h1]; exact h
theorem WI_undo (h : WI s c) : WI (xUndo s).2 c := by
  rw [xUndo]
  by_cases h0 : (sH s).1 = 0
  · rw [if_pos h0]; exact h
  · rw [if_neg h0]
    obtain ⟨⟨w1, w2, w3, w4, w5, w6, w7, w8, w9, w10⟩, ⟨z1, z2⟩, e, e1, e2, e3⟩ := h
    have hr := w10 ((sH s).1 - 1) (by omega)
    have hz := z2 ((sH s).1 - 1) (by omega)
    refine ⟨⟨?_, ?_, w3, w4, w5, w6, w7, w8, by show (sH s).1 - 1 ≤ 8; omega, fun j (hj : j < (sH s).1 - 1) => w10 j (by omega)⟩, ⟨?_, fun j (hj : j < (sH s).1 - 1) => z2 j (by omega)⟩, e, e1, e2, fun j (hj : j < (sH s).1 - 1) => e3 j (by omega)⟩
    · show WFr (s0 s).1 (sE s) (popR s _)
      rw [popR]
      split
      · exact hr
      · exact ⟨hr.1, hr.2.1, fun _ _ _ => Or.inl rfl, hr.2.2.2⟩
    · show rE (popR s _) = sE s
      rw [popR]
      split
      · assumption
      · rfl
    · show WZr (popR s _)
      rw [popR]
      split
      · exact hz
      · exact hz
theorem WI_keep (h : WI s c) (hc : c < 2 ^ 30) (j : Int32) : WI (xKeep s j).2 (c + 1) := by
  rw [xKeep]
  by_cases h0 : j = 0
  · rw [if_pos h0]
    obtain ⟨⟨w1, w2, w3, w4, w5, w6, w7, w8, w9, w10⟩, ⟨z1, z2⟩, e, e1, e2, e3⟩ := h
    refine ⟨⟨⟨w1.1, w1.2.1, fun _ _ _ => Or.inl rfl, w1.2.2.2⟩, rfl, w1.1.2.1, w4, fun _ => w1.1.2.2, w6, w7, w8, w9, fun j hj => ?_⟩, ⟨z1, z2⟩, e + 1, by omega, by show sE s + 1 = _; rw [e2, nI_1], fun j hj => ?_⟩
    · have hr := w10 j hj
      obtain ⟨e', k1, k2⟩ := e3 j hj
      refine ⟨hr.1, hr.2.1, fun q => ?_, hr.2.2.2⟩
      have q : rE ((sH s).2 j) = sE s + 1 := q
      rw [k2, e2, nI_1, nI_eq (by omega) (by omega)] at q
      omega
    · obtain ⟨e', k1, k2⟩ := e3 j hj
      exact ⟨e', by omega, k2⟩
  · rw [if_neg h0]
    by_cases h1 : j = 1
    · rw [if_pos h1]
      refine WI_m (c := c) ?_ (Nat.le_succ _)
      obtain ⟨⟨w1, w2, w3, w4, w5, w6, w7, w8, w9, w10⟩, z, ee⟩ := h
      exact ⟨⟨w1, w2, w3, w1.1.2.1, w5, fun _ => w1.1.2.2, w7, w8, w9, w10⟩, z, ee⟩
    · rw [if_neg h1]; exact WI_m h (Nat.le_succ _)
theorem WI_relate (h : WI s c) (a b : Int32) : WI (xRelate s a b).2 c := by
  have h16 := h.1.1.1.2.1
  have hP := h.1.1.1.2.2
  rw [xRelate]
  by_cases h1 : (elB (rN (sC s)) a && elB (rN (sC s)) b) = true
  · rw [if_pos h1]
    rw [Bool.and_eq_true] at h1
    obtain ⟨x, hx, rfl⟩ := (el_t (by omega)).mp h1.1
    obtain ⟨y, hy, rfl⟩ := (el_t (by omega)).mp h1.2
    rw [cl_nI (by omega), cl_nI (by omega)]
    by_cases h2 : bt (rA (sC s) x) y = true
    · rw [if_pos h2]; exact h
    rw [if_neg h2]
    by_cases h3 : le (rA (sC s)) y x = true
    · rw [if_pos h3]; exact h
    rw [if_neg h3]
    rw [Bool.not_eq_true] at h3
    refine WI_adopt h h.1.1.1.1 h16 (rel_PO hP (by omega) hx hy h3) (fun w hw => ?_)
    rw [relA, decide_eq_false (by omega), Bool.false_and, if_neg (by decide)]
    exact h.2.1.1 w hw
  · rw [if_neg h1]; exact h
theorem bn_z {n x : Nat} {A : Nat → Int32} (hP : PO n A) (h16 : n ≤ 16) (hx : n ≤ x) : bn n A x = 0 := b_ext fun i hi => by
  rw [b_0, bn_bt (by omega) hi, Bool.eq_false_iff]
  intro q
  rw [Bool.and_eq_true, decide_eq_true_eq] at q
  by_cases h32 : x < 32
  · have := hP.1 i q.1 x h32 q.2; omega
  · have := q.2
    rw [bt, BitVec.getLsbD_of_ge _ _ (by omega)] at this; cases this
theorem WI_part (h : WI s c) {S : Int32} (hS : ∀ i, i < 32 → bt S i = true → i < rN (sC s)) (hne : ¬ S = 0) : WI (partS s S).2 c := by
  have h16 := h.1.1.1.2.1
  have hc := ct_le (bt S) (rN (sC s))
  exact WI_adopt h (nz_ct hS hne) (by omega) (par_PO h.1.1.1.2.2 h16) (fun x hx => by rw [parA, if_neg (by omega)])
theorem WI_formK (h : WI s c) (how : Int32) (q : Shf) (h1 : ¬ q.1 = 0) (hk : q.1 ≤ 16) (hP0 : PO q.1 q.2) : WI (xFormK s how q).2 c := by
  have h16 := h.1.1.1.2.1
  have hn1 := h.1.1.1.1
  have hP := h.1.1.1.2.2
  rw [xFormK]
  by_cases h5 : how = 5
  · rw [if_pos h5]
    by_cases g : rN (sC s) * q.1 ≤ 16
    · rw [if_pos g]
      exact WI_adopt h (Nat.mul_pos hn1 (by omega)) g (prs_PO hP hP0 h16 (by omega) hk g) (fun x hx => by rw [prsA, if_neg (by omega)])
    · rw [if_neg g]; exact h
  · rw [if_neg h5]
    by_cases g : rN (sC s) + q.1 ≤ 16
    · rw [if_pos g]
      exact WI_adopt h (by omega) g (bot_PO hP hP0 g) (fun x hx => by rw [botA, if_neg (by omega), if_neg (by omega)])
    · rw [if_neg g]; exact h
theorem WI_form (h : WI s c) (how a b : Int32) : WI (xForm s how a b).2 c := by
  have h16 := h.1.1.1.2.1
  have hn1 := h.1.1.1.1
  have hP := h.1.1.1.2.2
  rw [xForm]
  by_cases e0 : how = 0
  · rw [if_pos e0]; exact WI_adopt h hn1 h16 (turn_PO hP (by omega)) (fun x hx => bn_z hP h16 hx)
  rw [if_neg e0]
  by_cases e1 : how = 1
  · rw [if_pos e1]
    by_cases g : ivB (rN (sC s)) (rA (sC s)) a b = true
    · rw [if_pos g]
      obtain ⟨x, y, hx, hy, rfl, rfl, hl⟩ := (iv_t h16).mp g
      rw [cl_nI (by omega), cl_nI (by omega)]
      refine WI_part h (iv_lt (by omega) hy) (fun e => ?_)
      have : bt (ivS (rN (sC s)) (rA (sC s)) x y) x = true := by rw [iv_b (by omega) hy (by omega), decide_eq_true hx, le_rf (by omega), hl]; rfl
      rw [e, b_0] at this; cases this
    · rw [if_neg g]; exact h
  rw [if_neg e1]
  by_cases e2 : how = 2
  · rw [if_pos e2]
    by_cases g : setB (rN (sC s)) a = true
    · rw [if_pos g]
      have := (set_t h16).mp g
      exact WI_part h this.2 this.1
    · rw [if_neg g]; exact h
  rw [if_neg e2]
  by_cases e3 : how = 3 ∨ how = 4 ∨ how = 5
  · rw [if_pos e3]
    by_cases g : inR 1 a = true
    · rw [if_pos g]
      obtain ⟨j, hj, rfl⟩ := (inR_t (by decide)).mp g
      rw [cl_nI (by omega)]
      by_cases g0 : (shJ s j).1 = 0
      · rw [if_pos g0]; exact h
      · rw [if_neg g0]
        rcases (show j = 0 ∨ j = 1 by omega) with e | e <;> subst e
        · exact WI_formK h how (s0 s) g0 h.1.2.2.1 (h.1.2.2.2.2.1 (by have : ¬ (s0 s).1 = 0 := g0; omega))
        · exact WI_formK h how (s1 s) g0 h.1.2.2.2.1 (h.1.2.2.2.2.2.1 (by have : ¬ (s1 s).1 = 0 := g0; omega))
    · rw [if_neg g]; exact h
  · rw [if_neg e3]; exact h
theorem rel_z {n a b : Nat} {A : Nat → Int32} (h : ∀ x, n ≤ x → A x = 0) : ∀ x, n ≤ x → relA n A a b x = 0 := fun x hx => by
  rw [relA, decide_eq_false (by omega), Bool.false_and, if_neg (by decide)]; exact h x hx
theorem lnP_z {m n : Nat} {T : Nat → Int32} : ∀ f (A : Nat → Int32) low k, (∀ x, n ≤ x → A x = 0) → ∀ x, n ≤ x → (lnP m T n f A low k).2.1 x = 0
  | 0, A, low, k, h => h
  | f + 1, A, low, k, h => by
    rw [lnP]
    split
    · split
      · split
        · exact h
        · split
          · exact lnP_z f _ _ _ (rel_z h)
          · exact rel_z h
      · exact h
    · exact h
theorem lnW_z {m n k : Nat} {T A : Nat → Int32} (h : ∀ x, n ≤ x → A x = 0) : ∀ x, n ≤ x → (lnW m T n A k).2.1 x = 0 := by
  rw [lnW]
  split
  · exact lnP_z _ _ _ _ h
  · exact h
theorem lsP_z {m n : Nat} {T : Nat → Int32} : ∀ f (A : Nat → Int32) k, (∀ x, n ≤ x → A x = 0) → ∀ x, n ≤ x → (lsP m T n f A k).2 x = 0
  | 0, A, k, h => h
  | f + 1, A, k, h => by
    rw [lsP]
    split
    · split
      · exact lsP_z f _ _ (lnW_z h)
      · exact h
    · split
      · exact h
      · exact h
theorem txP_z {m : Nat} {T : Nat → Int32} : ∀ x, (txP m T).2.1 ≤ x → (txP m T).2.2 x = 0 := by
  by_cases e : kdI m T (sk m T 0) = 5
  · rw [txP, if_pos e]; exact fun _ _ => rfl
  · by_cases q : (rdK m T (kdI m T (sk m T 0)) (sk m T 0)).1 = 0
    · rw [txP, if_neg e, if_pos q]
      refine lsP_z _ _ _ ?_
      rw [rdK]
      split
      · intro x hx
        show kA _ _ x = 0
        rw [kA, if_neg (Nat.not_lt.mpr hx)]
      · exact fun _ _ => rfl
    · rw [txP, if_neg e, if_neg q]; exact fun _ _ => rfl
theorem WI_tell (h : WI s c) : WI (xTell s).2 c := by
  have ht : WI (tpS s) c := ⟨WF_tp h.1, h.2.1, h.2.2⟩
  rw [xTell]
  by_cases e : (txP (sT s).1 (sT s).2).1 = 0
  · rw [if_pos e]
    obtain ⟨o1, o2, o3⟩ := txP_ok e
    exact WI_adopt ht o1 o2 o3 txP_z
  · rw [if_neg e]; exact ht
end WX
