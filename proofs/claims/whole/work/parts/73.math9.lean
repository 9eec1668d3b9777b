/-! THE CLASS'S PATHS are the ways told -/
theorem st_sum {f : Nat → Int64} {s : Int32} {b : Int64} : ∀ n, stS f s b n = sumC (bt s) f n + b
  | 0 => by rw [stS, sumC, Int64.zero_add]
  | n + 1 => by
    rw [stS, sumC, st_sum n]
    by_cases q : bt s n = true
    · rw [if_pos q, if_pos q, Int64.add_assoc, Int64.add_comm b, ← Int64.add_assoc]
    · rw [if_neg q, if_neg q]
theorem start_44 {L : amL} {a x : Nat} (ha : a < 16) (hx : x < 16) : q_start L (nI a) 44 x = if x = a then 1 else 0 := by
  rw [q_start, setL_s, cl_nI (by omega)]
  by_cases q : x = a
  · rw [if_pos q, q, updL_s]
  · rw [if_neg q, updL_n q, q_fill, if_pos hx]
section CP
variable {I : amI} {L : amL} {n a : Nat} {A : Nat → Int32}
theorem ch_way {p : Nat} {P : Nat → Nat → Bool} (hO : OI I 3 n A) (ha : a < n) (hp : ∀ x y, x < n → y < n → bt (I p x) y = P y x) : ∀ k x, x < n → q_ch I L p 0 (nI a) k 44 x = wayM n P a k x
  | 0, x, hx => by
    have h16 := hO.2.2.1
    show q_start L (nI a) 44 x = if x = a then 1 else 0
    exact start_44 (by omega) (by omega)
  | k + 1, x, hx => by
    have h16 := hO.2.2.1
    rw [q_ch, q_step, setL_s, sz_eq hO.1 h16, cp16_in (by omega), stN, if_pos hx, stV, if_pos rfl, st_sum, Int64.add_zero]
    show _ = sumC (fun y => P y x) (wayM n P a k) n
    exact sumC_c (fun y hy => ⟨hp x y hx hy, fun _ => ch_way hO ha hp k y hy⟩)
theorem OI.b5 (hO : OI I 3 n A) {x y : Nat} (hx : x < n) (hy : y < n) : bt (I 5 x) y = bt (A y) x := by
  have h16 := hO.2.2.1
  rw [show I 5 x = bn n A x from hO.2.2.2.2.2.2.1 x hx, bn_bt (by omega) (by omega), decide_eq_true hy, Bool.true_and]
theorem OI.b7 (hO : OI I 3 n A) {x y : Nat} (hx : x < n) (hy : y < n) : bt (I 7 x) y = cv n A y x := by
  have h16 := hO.2.2.1
  rw [show I 7 x = mkset (fun w => cv n A w x) n from hO.2.2.2.2.2.2.2.2.1 x hx, b_mk _ n (by omega) y (by omega), decide_eq_true hy, Bool.true_and]
theorem mch_way (hO : OI I 3 n A) (ha : a < n) : ∀ k x, x < n → q_ch I L 5 1 (nI a) k 44 x = wayM n (le A) a k x
  | 0, x, hx => by
    have h16 := hO.2.2.1
    show q_start L (nI a) 44 x = if x = a then 1 else 0
    exact start_44 (by omega) (by omega)
  | k + 1, x, hx => by
    have h16 := hO.2.2.1
    rw [q_ch, q_step, setL_s, sz_eq hO.1 h16, cp16_in (by omega), stN, if_pos hx, stV, if_neg (by decide), st_sum]
    show _ = sumC (fun y => le A y x) (wayM n (le A) a k) n
    rw [sumC_rm (q := fun y => le A y x) (y := x) hx (le_rf (by omega)), mch_way hO ha k x hx]
    refine congrArg (· + _) (sumC_c (fun y hy => ⟨?_, fun _ => mch_way hO ha k y hy⟩))
    rw [hO.b5 hx hy, lt_b hO.2.2.2.2.2.1 (by omega) hy hx, Bool.and_comm]
theorem sgn_1 : ∀ k, sgn 1 k = 1
  | 0 => rfl
  | k + 1 => by rw [sgn, sgn_1 k]; decide
theorem sgn_m : ∀ k, sgn (-1) k = if k % 2 = 0 then 1 else -1
  | 0 => rfl
  | k + 1 => by
    rw [sgn, sgn_m k]
    by_cases q : k % 2 = 0
    · rw [if_pos q, if_neg (show ¬ (k + 1) % 2 = 0 by omega)]; decide
    · rw [if_neg q, if_pos (show (k + 1) % 2 = 0 by omega)]; decide
theorem ca_ac {p b : Nat} {P : Nat → Nat → Bool} (hO : OI I 3 n A) (ha : a < n) (hb : b < n) (hp : ∀ x y, x < n → y < n → bt (I p x) y = P y x) : ∀ k, q_ca I L p (nI a) (nI b) 1 k = acM n P a b k
  | 0 => by
    have h16 := hO.2.2.1
    rw [q_ca, cl_nI (by omega)]; exact ch_way hO ha hp 0 b hb
  | k + 1 => by
    have h16 := hO.2.2.1
    rw [q_ca, ca_ac hO ha hb hp k, sgn_1, Int64.one_mul, cl_nI (by omega), ch_way hO ha hp (k + 1) b hb]; rfl
theorem ca_alt {p b : Nat} {P : Nat → Nat → Bool} (hO : OI I 3 n A) (ha : a < n) (hb : b < n) (hp : ∀ x y, x < n → y < n → bt (I p x) y = P y x) : ∀ k, q_ca I L p (nI a) (nI b) (-1) k = altM n P a b (k + 1)
  | 0 => by
    have h16 := hO.2.2.1
    rw [q_ca, cl_nI (by omega), altM, altM, Int64.zero_add, if_pos rfl]; exact ch_way hO ha hp 0 b hb
  | k + 1 => by
    have h16 := hO.2.2.1
    rw [q_ca, ca_alt hO ha hb hp k, sgn_m, cl_nI (by omega), ch_way hO ha hp (k + 1) b hb]
    show _ = altM n P a b (k + 1) + (if (k + 1) % 2 = 0 then wayM n P a (k + 1) b else -(wayM n P a (k + 1) b))
    by_cases q : (k + 1) % 2 = 0
    · rw [if_pos q, if_pos q, Int64.one_mul]
    · rw [if_neg q, if_neg q, Int64.neg_mul, Int64.one_mul]
theorem ch_o {p : Nat} {v a : Int32} {q : Nat} (h1 : q ≠ 44) (h2 : q ≠ 45) : ∀ k, q_ch I L p v a k q = L q
  | 0 => by rw [q_ch, q_start, setL_n h1]
  | k + 1 => by rw [q_ch, q_step, setL_n h1, setL_n h2, ch_o h1 h2 k]
theorem cc_o {a b : Int32} {q : Nat} (h1 : q ≠ 44) (h2 : q ≠ 45) : ∀ k, q_cc I L a b k q = L q
  | 0 => by rw [q_cc, q_start, setL_n h1]
  | k + 1 => by
    rw [q_cc]
    split
    · rw [q_ta, setL_n h1, setL_n h2, cc_o h1 h2 k]
    · exact cc_o h1 h2 k
theorem ta_sum {now f : Nat → Int64} {atom set : Int32} (hJ : ∀ y, y < n → bt set y = true → ¬ taJ I atom set y < 0) : ∀ m, m ≤ n → ∀ w, taN I now f atom set m w = f w - sumC (fun y => bt set y && decide ((taJ I atom set y).toNatClampNeg = w)) now m
  | 0, _, w => by rw [taN, sumC, Int64.sub_zero]
  | m + 1, hm, w => by
    rw [taN, sumC]
    by_cases q : bt set m = true
    · rw [if_pos (by rw [q, decide_eq_true (hJ m (by omega) q)]; rfl)]
      by_cases e : (taJ I atom set m).toNatClampNeg = w
      · rw [if_pos (by rw [q, decide_eq_true e]; rfl), e, updL_s, ta_sum hJ m (by omega) w, Int64.sub_sub]
      · rw [if_neg (by rw [decide_eq_false e]; simp), updL_n (fun h => e h.symm), ta_sum hJ m (by omega) w]
    · rw [Bool.not_eq_true] at q
      rw [if_neg (by rw [q]; simp), if_neg (by rw [q]; simp), ta_sum hJ m (by omega) w]
theorem cc_X {b : Nat} (hO : OI I 3 n A) (ha : a < n) (hb : b < n) (hl : le A a b = true) (har : arM n A (ivS n A a b) = true) : q_cc I L (nI a) (nI b) n 44 b = ccX n A a b := by
  have h16 := hO.2.2.1
  have hP := hO.2.2.2.2.2.1
  have hset := iv_lt (n := n) (A := A) (a := a) (by omega) hb
  obtain ⟨M, hM16, hat, hbits⟩ := set16 (x := atM n A a b) (and_16' (iv_16 h16 hb))
  have hMe : (atM n A a b).toNatClampNeg = M := by rw [hat]; exact cl_nI (by omega)
  have h6 : I 6 a = mkset (cv n A a) n := hO.2.2.2.2.2.2.2.1 a ha
  have key : ∀ k, k ≤ n → ∀ x, x < n → q_cc I L (nI a) (nI b) k 44 x = ccN n (bt (ivS n A a b)) M (jN n A (ivS n A a b)) a k x := by
    intro k
    induction k with
    | zero => intro _ x hx; show q_start L (nI a) 44 x = if x = a then 1 else 0; exact start_44 (by omega) (by omega)
    | succ k ih =>
      intro hk x hx
      have hkn : k < n := by omega
      rw [q_cc, ccN, cl_nI (show a < 2 ^ 31 by omega), h6, hO.btw ha hb, show mkset (cv n A a) n &&& ivS n A a b = atM n A a b from rfl, hbits k (by omega)]
      dsimp only
      by_cases q : bt (atM n A a b) k = true
      · rw [if_pos q, if_pos q, q_ta, setL_s, cp16_in (by omega), sz_eq hO.1 h16]
        have hbk : bt (ivS n A a b) k = true := by rw [atM, b_and, Bool.and_eq_true] at q; exact q.2
        have hj : ∀ y, y < n → taJ I (nI k) (ivS n A a b) y = jnM n A (ivS n A a b) y k := fun y hy => by rw [taJ, hO.from hy, hO.from hkn, hO.least, jnM]
        rw [ta_sum (n := n) (fun y hy hby => by
          obtain ⟨w, hw, _, e⟩ := jn_in hP h16 hset har hy hkn hby hbk
          rw [hj y hy, e]; exact nI_pos (by omega)) n (Nat.le_refl _) x, cp16_in (by omega), ih (by omega) x hx]
        refine congrArg (_ - ·) (sumC_c (fun y hy => ⟨?_, fun _ => ih (by omega) y hy⟩))
        rw [hj y hy, jN]
      · rw [if_neg q, if_neg q]
        exact ih (by omega) x hx
  rw [key n (Nat.le_refl _) b hb, ccX, hMe]
end CP
