/-! LIKENESS: marks that alike sets share -/
def sB (h : Nat → Int32) (p : Nat → Bool) : Nat → Int32
  | 0 => 0
  | n + 1 => if p n = true then sB h p n + h n else sB h p n
theorem sB_c {h h' : Nat → Int32} {p p' : Nat → Bool} : ∀ {n : Nat}, (∀ i, i < n → p i = p' i ∧ (p i = true → h i = h' i)) → sB h p n = sB h' p' n
  | 0, _ => rfl
  | n + 1, e => by
    rw [sB, sB, sB_c (fun i hi => e i (by omega)), ← (e n (by omega)).1]
    by_cases q : p n = true
    · rw [if_pos q, if_pos q, (e n (by omega)).2 q]
    · rw [if_neg q, if_neg q]
theorem sB_rm {h : Nat → Int32} {q : Nat → Bool} {y : Nat} : ∀ {m : Nat}, y < m → q y = true → sB h q m = sB h (fun w => q w && decide (¬ w = y)) m + h y
  | 0, hy, _ => absurd hy (Nat.not_lt_zero _)
  | m + 1, hy, hq => by
    rw [sB, sB]
    by_cases e : y = m
    · subst e
      rw [if_pos hq, if_neg (by rw [decide_eq_false (not_not_intro rfl)]; simp)]
      congr 1
      exact sB_c (fun i hi => ⟨by rw [decide_eq_true (show ¬ i = y by omega), Bool.and_true], fun _ => rfl⟩)
    · rw [sB_rm (show y < m by omega) hq]
      by_cases q2 : q m = true
      · rw [if_pos q2, if_pos (by rw [q2, decide_eq_true (show ¬ m = y from fun w => e w.symm)]; rfl), Int32.add_assoc, Int32.add_assoc, Int32.add_comm (h y)]
      · rw [if_neg q2, if_neg (by intro w; rw [Bool.and_eq_true] at w; exact q2 w.1)]
theorem sB_bij {h h' : Nat → Int32} {f g : Nat → Nat} {m : Nat} : ∀ {n : Nat} {p q : Nat → Bool}, (∀ x, x < n → p x = true → f x < m ∧ q (f x) = true ∧ g (f x) = x ∧ h' (f x) = h x) → (∀ y, y < m → q y = true → g y < n ∧ p (g y) = true ∧ f (g y) = y) → sB h p n = sB h' q m
  | 0, p, q, _, h2 => by
    have z : ∀ k, k ≤ m → sB h' q k = 0 := by
      intro k
      induction k with
      | zero => intro _; rfl
      | succ k ih =>
        intro hk
        rw [sB, if_neg (fun w => absurd (h2 k (by omega) w).1 (Nat.not_lt_zero _)), ih (by omega)]
    rw [z m (Nat.le_refl _)]; rfl
  | n + 1, p, q, h1, h2 => by
    rw [sB]
    by_cases e : p n = true
    · rw [if_pos e]
      obtain ⟨a1, a2, a3, a4⟩ := h1 n (by omega) e
      rw [sB_rm a1 a2, a4]
      congr 1
      refine sB_bij (f := f) (g := g) (fun x hx hp => ?_) (fun y hy hq => ?_)
      · obtain ⟨b1, b2, b3, b4⟩ := h1 x (by omega) hp
        refine ⟨b1, ?_, b3, b4⟩
        rw [b2, decide_eq_true (show ¬ f x = f n from fun w => by rw [w, a3] at b3; omega)]; rfl
      · rw [Bool.and_eq_true, decide_eq_true_eq] at hq
        obtain ⟨b1, b2, b3⟩ := h2 y hy hq.1
        refine ⟨?_, b2, b3⟩
        have : g y ≠ n := fun w => hq.2 (by rw [← b3, w])
        omega
    · rw [if_neg e]
      refine sB_bij (f := f) (g := g) (fun x hx hp => h1 x (by omega) hp) (fun y hy hq => ?_)
      obtain ⟨b1, b2, b3⟩ := h2 y hy hq
      have : g y ≠ n := fun w => by rw [w] at b2; exact e b2
      exact ⟨by omega, b2, b3⟩
def cnM (n : Nat) (A : Nat → Int32) (s : Int32) (x : Nat) : Int32 := 1 + q_bc (s &&& bn n A x) + 17 * q_bc (s &&& A x)
def sqM (n : Nat) (A : Nat → Int32) (s r : Int32) : Int32 := sB (fun x => cnM n A s x * cnM n A s x) (bt r) n
def ouM (n : Nat) (A : Nat → Int32) (s : Int32) (x : Nat) : Int32 := cnM n A s x + 331 * sqM n A s (s &&& bn n A x) + 7919 * sqM n A s (s &&& A x)
def mkM (n : Nat) (A : Nat → Int32) (s : Int32) : Int32 := sB (fun x => ouM n A s x * ouM n A s x + 1) (bt s) n
theorem bc_ct {n : Nat} {s : Int32} (h16 : n ≤ 16) (hs : ∀ i, i < 32 → bt s i = true → i < n) : q_bc s = nI (ct (bt s) n) := by
  have e : s = mkset (bt s) n := mk_of (by omega) (fun i hi => by
    cases h : bt s i
    · rw [Bool.and_false]
    · rw [decide_eq_true (hs i hi h)]; rfl)
  conv => lhs; rw [e]
  rw [bc_mk h16]
section ISO
variable {n : Nat} {A : Nat → Int32} {s t : Int32} {f g : Nat → Nat}
theorem iso_bn (h16 : n ≤ 16) (h : isoP n A s t f g) {x w : Nat} (hx : x < n) (hs : bt s x = true) (hw : w < n) (hsw : bt s w = true) : bt (s &&& bn n A x) w = bt (t &&& bn n A (f x)) (f w) := by
  obtain ⟨a1, a2, _⟩ := h.1 x hx hs
  obtain ⟨b1, b2, _⟩ := h.1 w hw hsw
  rw [b_and, b_and, hsw, b2, bn_bt (by omega) (by omega), bn_bt (by omega) (by omega), decide_eq_true hw, decide_eq_true b1, h.2.2 w x hw hx hsw hs]
theorem iso_ab (h : isoP n A s t f g) {x w : Nat} (hx : x < n) (hs : bt s x = true) (hw : w < n) (hsw : bt s w = true) : bt (s &&& A x) w = bt (t &&& A (f x)) (f w) := by
  obtain ⟨b1, b2, _⟩ := h.1 w hw hsw
  rw [b_and, b_and, hsw, b2, h.2.2 x w hx hw hs hsw]
theorem iso_cn (h16 : n ≤ 16) (hs : ∀ i, i < 32 → bt s i = true → i < n) (ht : ∀ i, i < 32 → bt t i = true → i < n) (h : isoP n A s t f g) {x : Nat} (hx : x < n) (hsx : bt s x = true) : cnM n A s x = cnM n A t (f x) := by
  rw [cnM, cnM, bc_ct h16 (fun i hi q => by rw [b_and, Bool.and_eq_true] at q; exact hs i hi q.1), bc_ct h16 (fun i hi q => by rw [b_and, Bool.and_eq_true] at q; exact hs i hi q.1), bc_ct h16 (fun i hi q => by rw [b_and, Bool.and_eq_true] at q; exact ht i hi q.1), bc_ct h16 (fun i hi q => by rw [b_and, Bool.and_eq_true] at q; exact ht i hi q.1)]
  rw [iso_ct h (p := bt (s &&& bn n A x)) (q := bt (t &&& bn n A (f x))) (fun w hw q => by rw [b_and, Bool.and_eq_true] at q; exact q.1) (fun w hw q => by rw [b_and, Bool.and_eq_true] at q; exact q.1) (fun w hw hsw => iso_bn h16 h hx hsx hw hsw)]
  rw [iso_ct h (p := bt (s &&& A x)) (q := bt (t &&& A (f x))) (fun w hw q => by rw [b_and, Bool.and_eq_true] at q; exact q.1) (fun w hw q => by rw [b_and, Bool.and_eq_true] at q; exact q.1) (fun w hw hsw => iso_ab h hx hsx hw hsw)]
theorem iso_sq (h16 : n ≤ 16) (hs : ∀ i, i < 32 → bt s i = true → i < n) (ht : ∀ i, i < 32 → bt t i = true → i < n) (h : isoP n A s t f g) {r r' : Int32} (hr : ∀ w, w < n → bt r w = true → bt s w = true) (hr' : ∀ w, w < n → bt r' w = true → bt t w = true) (e : ∀ w, w < n → bt s w = true → bt r w = bt r' (f w)) : sqM n A s r = sqM n A t r' := by
  refine sB_bij (f := f) (g := g) (fun x hx hp => ?_) (fun y hy hq => ?_)
  · have hsx := hr x hx hp
    obtain ⟨a1, a2, a3⟩ := h.1 x hx hsx
    exact ⟨a1, by rw [← e x hx hsx]; exact hp, a3, by rw [iso_cn h16 hs ht h hx hsx]⟩
  · obtain ⟨a1, a2, a3⟩ := h.2.1 y hy (hr' y hy hq)
    exact ⟨a1, by rw [e _ a1 a2, a3]; exact hq, a3⟩
theorem iso_ou (h16 : n ≤ 16) (hs : ∀ i, i < 32 → bt s i = true → i < n) (ht : ∀ i, i < 32 → bt t i = true → i < n) (h : isoP n A s t f g) {x : Nat} (hx : x < n) (hsx : bt s x = true) : ouM n A s x = ouM n A t (f x) := by
  have hb : ∀ {r q : Int32} {w : Nat}, w < n → bt (r &&& q) w = true → bt r w = true := fun _ q => by rw [b_and, Bool.and_eq_true] at q; exact q.1
  rw [ouM, ouM, iso_cn h16 hs ht h hx hsx, iso_sq h16 hs ht h (r := s &&& bn n A x) (r' := t &&& bn n A (f x)) (fun w hw q => hb hw q) (fun w hw q => hb hw q) (fun w hw hsw => iso_bn h16 h hx hsx hw hsw), iso_sq h16 hs ht h (r := s &&& A x) (r' := t &&& A (f x)) (fun w hw q => hb hw q) (fun w hw q => hb hw q) (fun w hw hsw => iso_ab h hx hsx hw hsw)]
theorem iso_mk (h16 : n ≤ 16) (hs : ∀ i, i < 32 → bt s i = true → i < n) (ht : ∀ i, i < 32 → bt t i = true → i < n) (h : isoP n A s t f g) : mkM n A s = mkM n A t := by
  refine sB_bij (f := f) (g := g) (fun x hx hp => ?_) (fun y hy hq => ?_)
  · obtain ⟨a1, a2, a3⟩ := h.1 x hx hp
    exact ⟨a1, a2, a3, by rw [iso_ou h16 hs ht h hx hp]⟩
  · exact h.2.1 y hy hq
end ISO
theorem iso_endX {n c : Nat} {A : Nat → Int32} {s t : Int32} {mn pr ix : Nat → Nat} (hmn : ∀ i, i < c → mn i < n ∧ bt s (mn i) = true ∧ ix (mn i) = i) (hidx : ∀ x, x < n → bt s x = true → ix x < c ∧ mn (ix x) = x) (hpr : ∀ i, i < c → pr i < n ∧ bt t (pr i) = true) (hinj : ∀ i j, i < c → j < c → pr i = pr j → i = j) (hon : ∀ y, y < n → bt t y = true → ∃ i, i < c ∧ pr i = y) (hcon : ∀ i j, i < c → j < c → bt (A (mn i)) (mn j) = bt (A (pr i)) (pr j)) : ∃ f g, isoP n A s t f g ∧ ∀ i, i < c → f (mn i) = pr i := by
  refine ⟨fun x => pr (ix x), fun y => mn (scan (fun i => decide (pr i = y)) id 0 c 0), ⟨fun x hx hsx => ?_, fun y hy hty => ?_, fun x y hx hy hsx hsy => ?_⟩, fun i hi => ?_⟩
  · obtain ⟨h1, h2⟩ := hidx x hx hsx
    obtain ⟨h3, h4⟩ := hpr _ h1
    refine ⟨h3, h4, ?_⟩
    show mn (scan (fun i => decide (pr i = pr (ix x))) id 0 c 0) = x
    rcases scan_or (p := fun i => decide (pr i = pr (ix x))) (r := id) (d := 0) c 0 with ⟨_, q⟩ | ⟨j, _, q2, q3, q4, _⟩
    · have := q _ (Nat.zero_le _) (show ix x < 0 + c by omega)
      rw [decide_eq_true rfl] at this; cases this
    · rw [decide_eq_true_eq] at q3
      rw [q4]
      show mn j = x
      rw [hinj j _ (by omega) h1 q3, h2]
  · obtain ⟨i, hi, e⟩ := hon y hy hty
    show mn (scan (fun i => decide (pr i = y)) id 0 c 0) < n ∧ bt s (mn (scan (fun i => decide (pr i = y)) id 0 c 0)) = true ∧ pr (ix (mn (scan (fun i => decide (pr i = y)) id 0 c 0))) = y
    rcases scan_or (p := fun i => decide (pr i = y)) (r := id) (d := 0) c 0 with ⟨_, q⟩ | ⟨j, _, q2, q3, q4, _⟩
    · have := q i (Nat.zero_le _) (by omega)
      rw [decide_eq_true e] at this; cases this
    · rw [decide_eq_true_eq] at q3
      rw [q4]
      obtain ⟨h1, h2, h3⟩ := hmn j (by omega)
      refine ⟨h1, h2, ?_⟩
      show pr (ix (mn j)) = y
      rw [h3, q3]
  · obtain ⟨h1, h2⟩ := hidx x hx hsx
    obtain ⟨h3, h4⟩ := hidx y hy hsy
    have := hcon _ _ h1 h3
    rw [h2, h4] at this
    exact this
  · show pr (ix (mn i)) = pr i
    rw [(hmn i hi).2.2]
/-! the code: sums, partners, marks -/
def sqG (I : amI) (s : Int32) : Nat → Int32 := sB (fun x => I 51 x * I 51 x) (bt s)
def prG (I : amI) (s : Int32) : Nat → Int32
  | 0 => 0
  | k + 1 => if bt s k = true then prG I s k ||| (1 : Int32) <<< (I 55 k &&& 31) else prG I s k
set_option maxRecDepth 100000 in
set_option maxHeartbeats 4000000 in
theorem b_X2_sumOfSquares_0 {z : amZ} {post : amP} {G : amG} {I : amI} {L : amL} (hz : Go z cX2_sumOfSquares RX2 4 (some .int) 0 0 0 post) (hG : Lay G) {v1 : Int32} (h : Wx z 0 0 4 [(0, .ref ((zB z).size + 46)), (1, .int v1), (2, .int 0), (3, .int 0)] [] G I L) : Wx z 0 0 0 [(0, .ref ((zB z).size + 46)), (1, .int v1)] [] G I L := by
  have hz1 := hz.1
  refine am_iconst (v := 0) hz1 dX2_sumOfSquares_0 (by decide) ?_
  refine am_istore_n (lv' := [(2, .int 0), (0, .ref ((zB z).size + 46)), (1, .int v1)]) hz1 dX2_sumOfSquares_1 rfl rfl rfl ?_
  refine am_iconst (v := 0) hz1 dX2_sumOfSquares_2 (by decide) ?_
  refine am_istore_n (lv' := [(3, .int 0), (2, .int 0), (0, .ref ((zB z).size + 46)), (1, .int v1)]) hz1 dX2_sumOfSquares_3 rfl rfl rfl ?_
  exact am_sub (lv' := [(0, .ref ((zB z).size + 46)), (1, .int v1), (2, .int 0), (3, .int 0)]) [2, 3, 1, 0] rfl h
set_option maxRecDepth 100000 in
set_option maxHeartbeats 4000000 in
theorem b_X2_sumOfSquares_4 {z : amZ} {post : amP} {G : amG} {I : amI} {L : amL} (hz : Go z cX2_sumOfSquares RX2 4 (some .int) 0 0 0 post) (hG : Lay G) {v1 : Int32} {v2 : Int32} {v3 : Int32} (h : (((I 3 0) ≤ v3) → post (some (.int v2)) G I L) ∧ ((¬ (I 3 0) ≤ v3) → ((¬ ((v1 >>> (v3 &&& 31)) &&& (1 : Int32)) = (1 : Int32)) → Wx z 0 0 4 [(0, .ref ((zB z).size + 46)), (1, .int v1), (2, .int v2), (3, .int (v3 + 1))] [] G I L) ∧ ((((v1 >>> (v3 &&& 31)) &&& (1 : Int32)) = (1 : Int32)) → vp_in v3 16 ∧ vp_in v3 16 ∧ Wx z 0 0 4 [(0, .ref ((zB z).size + 46)), (1, .int v1), (2, .int (v2 + ((I 51 v3.toNatClampNeg) * (I 51 v3.toNatClampNeg)))), (3, .int (v3 + 1))] [] G I L))) : Wx z 0 0 4 [(0, .ref ((zB z).size + 46)), (1, .int v1), (2, .int v2), (3, .int v3)] [] G I L := by
  have hz1 := hz.1
  refine am_iload_n hz1 dX2_sumOfSquares_4 3 rfl rfl ?_
  refine am_aload_n hz1 dX2_sumOfSquares_5 0 rfl rfl ?_
  refine am_getR hz1 fl_X2_39 (ln_46 hG) (lk_46 hG) (lr_46_2 hG) rfl dX2_sumOfSquares_6 ?_
  refine am_getI hz1 fl_X2_60 (ln_3 hG) (lk_3 hG) rfl dX2_sumOfSquares_9 ?_
  refine am_icmp_ge (tgt := 46) hz1 dX2_sumOfSquares_12 (by decide) (fun c1 => ?_) (fun c1 => ?_)
  · replace h := h.1 c1
    refine am_iload_n hz1 dX2_sumOfSquares_46 2 rfl rfl ?_
    exact am_ireturn hz dX2_sumOfSquares_47 h
  · replace h := h.2 c1
    refine am_iload_n hz1 dX2_sumOfSquares_15 1 rfl rfl ?_
    refine am_iload_n hz1 dX2_sumOfSquares_16 3 rfl rfl ?_
    refine am_ishr hz1 dX2_sumOfSquares_17 ?_
    refine am_iconst (v := 1) hz1 dX2_sumOfSquares_18 (by decide) ?_
    refine am_iand hz1 dX2_sumOfSquares_19 ?_
    refine am_iconst (v := 1) hz1 dX2_sumOfSquares_20 (by decide) ?_
    refine am_icmp_ne (tgt := 40) hz1 dX2_sumOfSquares_21 (by decide) (fun c2 => ?_) (fun c2 => ?_)
    · replace h := h.1 c2
      refine am_iinc (v := v3 + 1) (lv' := [(3, .int (v3 + 1)), (0, .ref ((zB z).size + 46)), (1, .int v1), (2, .int v2)]) hz1 dX2_sumOfSquares_40 3 rfl rfl rfl rfl ?_
      refine am_goto (tgt := 4) hz1 dX2_sumOfSquares_43 (by decide) ?_
      exact am_sub (lv' := [(0, .ref ((zB z).size + 46)), (1, .int v1), (2, .int v2), (3, .int (v3 + 1))]) [1, 2, 3, 0] rfl h
    · replace h := h.2 c2
      refine am_iload_n hz1 dX2_sumOfSquares_24 2 rfl rfl ?_
      refine am_aload_n hz1 dX2_sumOfSquares_25 0 rfl rfl ?_
      refine am_getR hz1 fl_X2_24 (ln_46 hG) (lk_46 hG) (lr_46_5 hG) rfl dX2_sumOfSquares_26 ?_
      refine am_iload_n hz1 dX2_sumOfSquares_29 3 rfl rfl ?_
      obtain ⟨g3, h⟩ := h
      refine am_iald hz1 (ln_51 hG) (lk_51 hG) (by rw [(ll_51 hG)]; exact g3) dX2_sumOfSquares_30 ?_
      refine am_aload_n hz1 dX2_sumOfSquares_31 0 rfl rfl ?_
      refine am_getR hz1 fl_X2_24 (ln_46 hG) (lk_46 hG) (lr_46_5 hG) rfl dX2_sumOfSquares_32 ?_
      refine am_iload_n hz1 dX2_sumOfSquares_35 3 rfl rfl ?_
      obtain ⟨g4, h⟩ := h
      refine am_iald hz1 (ln_51 hG) (lk_51 hG) (by rw [(ll_51 hG)]; exact g4) dX2_sumOfSquares_36 ?_
      refine am_imul hz1 dX2_sumOfSquares_37 ?_
      refine am_iadd hz1 dX2_sumOfSquares_38 ?_
      refine am_istore_n (lv' := [(2, .int (v2 + ((I 51 v3.toNatClampNeg) * (I 51 v3.toNatClampNeg)))), (0, .ref ((zB z).size + 46)), (1, .int v1), (3, .int v3)]) hz1 dX2_sumOfSquares_39 rfl rfl rfl ?_
      refine am_iinc (v := v3 + 1) (lv' := [(3, .int (v3 + 1)), (2, .int (v2 + ((I 51 v3.toNatClampNeg) * (I 51 v3.toNatClampNeg)))), (0, .ref ((zB z).size + 46)), (1, .int v1)]) hz1 dX2_sumOfSquares_40 3 rfl rfl rfl rfl ?_
      refine am_goto (tgt := 4) hz1 dX2_sumOfSquares_43 (by decide) ?_
      exact am_sub (lv' := [(0, .ref ((zB z).size + 46)), (1, .int v1), (2, .int (v2 + ((I 51 v3.toNatClampNeg) * (I 51 v3.toNatClampNeg)))), (3, .int (v3 + 1))]) [2, 3, 1, 0] rfl h
set_option maxRecDepth 100000 in
set_option maxHeartbeats 4000000 in
theorem c_X2_sumOfSquares {l : Launch} {D : va_G} {B : Heap} {G : amG} {I : amI} {L : amL}  (hG : Lay G)  (v1 : Int32) (hs : szOk I 3) : Fx l D B yX2_sumOfSquares cX2_sumOfSquares 4 (some .int) 0 [.ref (B.size + 46), .int v1] G I L (some (.int (sqG I v1 (sz I 3)))) I L := by
  refine Mx.of (by decide) rfl rfl (fun z e1 e2 e3 hz => ?_)
  subst e1; subst e2; subst e3
  refine b_X2_sumOfSquares_0 hz hG ?_
  obtain ⟨n, h1, h16, hn⟩ := hs
  have main : Wx z 0 0 4 [(0, .ref ((zB z).size + 46)), (1, .int v1), (2, .int (sqG I v1 0)), (3, .int (nI 0))] [] G I L := by
    refine for_up (P := fun k => Wx z 0 0 4 [(0, .ref ((zB z).size + 46)), (1, .int v1), (2, .int (sqG I v1 k)), (3, .int (nI k))] [] G I L) (n := n) ?_ ?_ (Nat.zero_le _)
    · refine b_X2_sumOfSquares_4 hz hG ⟨fun _ => ?_, fun h => absurd (sz_le hn h16) h⟩
      rw [sz_eq hn h16]; exact ⟨rfl, rfl, rfl, rfl⟩
    · intro k hk ih
      refine b_X2_sumOfSquares_4 hz hG ⟨fun h => absurd h (sz_ge hn h16 hk), fun _ => ?_⟩
      rw [b_bit _ _ (show k < 32 by omega), cl_nI (n := k) (by omega), nI_1]
      refine ⟨fun q => ?_, fun q => ⟨in16 h16 hk, in16 h16 hk, ?_⟩⟩
      · have e : sqG I v1 (k + 1) = sqG I v1 k := by rw [sqG, sB, if_neg q]
        rw [e] at ih; exact ih
      · have e : sqG I v1 (k + 1) = sqG I v1 k + I 51 k * I 51 k := by rw [sqG, sB, if_pos q]
        rw [e] at ih; exact ih
  exact main
set_option maxRecDepth 100000 in
set_option maxHeartbeats 4000000 in
theorem b_X2_partnersOf_0 {z : amZ} {post : amP} {G : amG} {I : amI} {L : amL} (hz : Go z cX2_partnersOf RX2 4 (some .int) 0 0 0 post) (hG : Lay G) {v1 : Int32} (h : Wx z 0 0 4 [(0, .ref ((zB z).size + 46)), (1, .int v1), (2, .int 0), (3, .int 0)] [] G I L) : Wx z 0 0 0 [(0, .ref ((zB z).size + 46)), (1, .int v1)] [] G I L := by
  have hz1 := hz.1
  refine am_iconst (v := 0) hz1 dX2_partnersOf_0 (by decide) ?_
  refine am_istore_n (lv' := [(2, .int 0), (0, .ref ((zB z).size + 46)), (1, .int v1)]) hz1 dX2_partnersOf_1 rfl rfl rfl ?_
  refine am_iconst (v := 0) hz1 dX2_partnersOf_2 (by decide) ?_
  refine am_istore_n (lv' := [(3, .int 0), (2, .int 0), (0, .ref ((zB z).size + 46)), (1, .int v1)]) hz1 dX2_partnersOf_3 rfl rfl rfl ?_
  exact am_sub (lv' := [(0, .ref ((zB z).size + 46)), (1, .int v1), (2, .int 0), (3, .int 0)]) [2, 3, 1, 0] rfl h
set_option maxRecDepth 100000 in
set_option maxHeartbeats 4000000 in
theorem b_X2_partnersOf_4 {z : amZ} {post : amP} {G : amG} {I : amI} {L : amL} (hz : Go z cX2_partnersOf RX2 4 (some .int) 0 0 0 post) (hG : Lay G) {v1 : Int32} {v2 : Int32} {v3 : Int32} (h : (((I 3 0) ≤ v3) → post (some (.int v2)) G I L) ∧ ((¬ (I 3 0) ≤ v3) → ((¬ ((v1 >>> (v3 &&& 31)) &&& (1 : Int32)) = (1 : Int32)) → Wx z 0 0 4 [(0, .ref ((zB z).size + 46)), (1, .int v1), (2, .int v2), (3, .int (v3 + 1))] [] G I L) ∧ ((((v1 >>> (v3 &&& 31)) &&& (1 : Int32)) = (1 : Int32)) → vp_in v3 16 ∧ Wx z 0 0 4 [(0, .ref ((zB z).size + 46)), (1, .int v1), (2, .int (v2 ||| ((1 : Int32) <<< ((I 55 v3.toNatClampNeg) &&& 31)))), (3, .int (v3 + 1))] [] G I L))) : Wx z 0 0 4 [(0, .ref ((zB z).size + 46)), (1, .int v1), (2, .int v2), (3, .int v3)] [] G I L := by
  have hz1 := hz.1
  refine am_iload_n hz1 dX2_partnersOf_4 3 rfl rfl ?_
  refine am_aload_n hz1 dX2_partnersOf_5 0 rfl rfl ?_
  refine am_getR hz1 fl_X2_39 (ln_46 hG) (lk_46 hG) (lr_46_2 hG) rfl dX2_partnersOf_6 ?_
  refine am_getI hz1 fl_X2_60 (ln_3 hG) (lk_3 hG) rfl dX2_partnersOf_9 ?_
  refine am_icmp_ge (tgt := 41) hz1 dX2_partnersOf_12 (by decide) (fun c1 => ?_) (fun c1 => ?_)
  · replace h := h.1 c1
    refine am_iload_n hz1 dX2_partnersOf_41 2 rfl rfl ?_
    exact am_ireturn hz dX2_partnersOf_42 h
  · replace h := h.2 c1
    refine am_iload_n hz1 dX2_partnersOf_15 1 rfl rfl ?_
    refine am_iload_n hz1 dX2_partnersOf_16 3 rfl rfl ?_
    refine am_ishr hz1 dX2_partnersOf_17 ?_
    refine am_iconst (v := 1) hz1 dX2_partnersOf_18 (by decide) ?_
    refine am_iand hz1 dX2_partnersOf_19 ?_
    refine am_iconst (v := 1) hz1 dX2_partnersOf_20 (by decide) ?_
    refine am_icmp_ne (tgt := 35) hz1 dX2_partnersOf_21 (by decide) (fun c2 => ?_) (fun c2 => ?_)
    · replace h := h.1 c2
      refine am_iinc (v := v3 + 1) (lv' := [(3, .int (v3 + 1)), (0, .ref ((zB z).size + 46)), (1, .int v1), (2, .int v2)]) hz1 dX2_partnersOf_35 3 rfl rfl rfl rfl ?_
      refine am_goto (tgt := 4) hz1 dX2_partnersOf_38 (by decide) ?_
      exact am_sub (lv' := [(0, .ref ((zB z).size + 46)), (1, .int v1), (2, .int v2), (3, .int (v3 + 1))]) [1, 2, 3, 0] rfl h
    · replace h := h.2 c2
      refine am_iload_n hz1 dX2_partnersOf_24 2 rfl rfl ?_
      refine am_iconst (v := 1) hz1 dX2_partnersOf_25 (by decide) ?_
      refine am_aload_n hz1 dX2_partnersOf_26 0 rfl rfl ?_
      refine am_getR hz1 fl_X2_36 (ln_46 hG) (lk_46 hG) (lr_46_9 hG) rfl dX2_partnersOf_27 ?_
      refine am_iload_n hz1 dX2_partnersOf_30 3 rfl rfl ?_
      obtain ⟨g3, h⟩ := h
      refine am_iald hz1 (ln_55 hG) (lk_55 hG) (by rw [(ll_55 hG)]; exact g3) dX2_partnersOf_31 ?_
      refine am_ishl hz1 dX2_partnersOf_32 ?_
      refine am_ior hz1 dX2_partnersOf_33 ?_
      refine am_istore_n (lv' := [(2, .int (v2 ||| ((1 : Int32) <<< ((I 55 v3.toNatClampNeg) &&& 31)))), (0, .ref ((zB z).size + 46)), (1, .int v1), (3, .int v3)]) hz1 dX2_partnersOf_34 rfl rfl rfl ?_
      refine am_iinc (v := v3 + 1) (lv' := [(3, .int (v3 + 1)), (2, .int (v2 ||| ((1 : Int32) <<< ((I 55 v3.toNatClampNeg) &&& 31)))), (0, .ref ((zB z).size + 46)), (1, .int v1)]) hz1 dX2_partnersOf_35 3 rfl rfl rfl rfl ?_
      refine am_goto (tgt := 4) hz1 dX2_partnersOf_38 (by decide) ?_
      exact am_sub (lv' := [(0, .ref ((zB z).size + 46)), (1, .int v1), (2, .int (v2 ||| ((1 : Int32) <<< ((I 55 v3.toNatClampNeg) &&& 31)))), (3, .int (v3 + 1))]) [2, 3, 1, 0] rfl h
set_option maxRecDepth 100000 in
set_option maxHeartbeats 4000000 in
theorem c_X2_partnersOf {l : Launch} {D : va_G} {B : Heap} {G : amG} {I : amI} {L : amL}  (hG : Lay G)  (v1 : Int32) (hs : szOk I 3) : Fx l D B yX2_partnersOf cX2_partnersOf 4 (some .int) 0 [.ref (B.size + 46), .int v1] G I L (some (.int (prG I v1 (sz I 3)))) I L := by
  refine Mx.of (by decide) rfl rfl (fun z e1 e2 e3 hz => ?_)
  subst e1; subst e2; subst e3
  refine b_X2_partnersOf_0 hz hG ?_
  obtain ⟨n, h1, h16, hn⟩ := hs
  have main : Wx z 0 0 4 [(0, .ref ((zB z).size + 46)), (1, .int v1), (2, .int (prG I v1 0)), (3, .int (nI 0))] [] G I L := by
    refine for_up (P := fun k => Wx z 0 0 4 [(0, .ref ((zB z).size + 46)), (1, .int v1), (2, .int (prG I v1 k)), (3, .int (nI k))] [] G I L) (n := n) ?_ ?_ (Nat.zero_le _)
    · refine b_X2_partnersOf_4 hz hG ⟨fun _ => ?_, fun h => absurd (sz_le hn h16) h⟩
      rw [sz_eq hn h16]; exact ⟨rfl, rfl, rfl, rfl⟩
    · intro k hk ih
      refine b_X2_partnersOf_4 hz hG ⟨fun h => absurd h (sz_ge hn h16 hk), fun _ => ?_⟩
      rw [b_bit _ _ (show k < 32 by omega), cl_nI (n := k) (by omega), nI_1]
      refine ⟨fun q => ?_, fun q => ⟨in16 h16 hk, ?_⟩⟩
      · have e : prG I v1 (k + 1) = prG I v1 k := by rw [prG, if_neg q]
        rw [e] at ih; exact ih
      · have e : prG I v1 (k + 1) = prG I v1 k ||| (1 : Int32) <<< (I 55 k &&& 31) := by rw [prG, if_pos q]
        rw [e] at ih; exact ih
  exact main
theorem prG_b {I : amI} {s : Int32} {pt : Nat → Nat} : ∀ n, (∀ x, x < n → bt s x = true → I 55 x = nI (pt x) ∧ pt x < 32) → ∀ w, w < 32 → (bt (prG I s n) w = true ↔ ∃ x, x < n ∧ bt s x = true ∧ pt x = w)
  | 0, _, w, _ => by
    rw [prG, b_0]
    exact ⟨fun h => (by cases h), fun ⟨x, hx, _⟩ => absurd hx (Nat.not_lt_zero _)⟩
  | n + 1, h, w, hw => by
    have ih := prG_b n (fun x hx => h x (by omega)) w hw
    rw [prG]
    by_cases e : bt s n = true
    · obtain ⟨e1, e2⟩ := h n (by omega) e
      rw [if_pos e, b_or, Bool.or_eq_true, ih, e1, b_one _ e2 hw, decide_eq_true_eq]
      constructor
      · rintro (⟨x, hx, q⟩ | q)
        · exact ⟨x, by omega, q⟩
        · exact ⟨n, by omega, e, q.symm⟩
      · rintro ⟨x, hx, q1, q2⟩
        by_cases ex : x = n
        · right; rw [← q2, ex]
        · left; exact ⟨x, by omega, q1, q2⟩
    · rw [if_neg e, ih]
      constructor
      · rintro ⟨x, hx, q⟩; exact ⟨x, by omega, q⟩
      · rintro ⟨x, hx, q1, q2⟩
        have : x ≠ n := fun w => by rw [w] at q1; exact e q1
        exact ⟨x, by omega, q1, q2⟩
set_option maxRecDepth 100000 in
set_option maxHeartbeats 4000000 in
theorem b_X2_markAll_0 {z : amZ} {post : amP} {G : amG} {I : amI} {L : amL} (hz : Go z cX2_markAll RX2 7 (some .int) 1 0 0 post) (hG : Lay G) {p2 : Nat} (hn_p2 : p2 < gN G) (hk_p2 : gK G p2 = 50) (hl_p2 : gL G p2 = 16) {v1 : Int32} (h : Wx z 0 0 2 [(0, .ref ((zB z).size + 46)), (1, .int v1), (2, .ref ((zB z).size + p2)), (3, .int 0)] [] G I L) : Wx z 0 0 0 [(0, .ref ((zB z).size + 46)), (1, .int v1), (2, .ref ((zB z).size + p2))] [] G I L := by
  have hz1 := hz.1
  refine am_iconst (v := 0) hz1 dX2_markAll_0 (by decide) ?_
  refine am_istore_n (lv' := [(3, .int 0), (0, .ref ((zB z).size + 46)), (1, .int v1), (2, .ref ((zB z).size + p2))]) hz1 dX2_markAll_1 rfl rfl rfl ?_
  exact am_sub (lv' := [(0, .ref ((zB z).size + 46)), (1, .int v1), (2, .ref ((zB z).size + p2)), (3, .int 0)]) [1, 2, 3, 0] rfl h
set_option maxRecDepth 100000 in
set_option maxHeartbeats 4000000 in
theorem b_X2_markAll_2 {z : amZ} {post : amP} {G : amG} {I : amI} {L : amL} (hz : Go z cX2_markAll RX2 7 (some .int) 1 0 0 post) (hG : Lay G) {p2 : Nat} (hn_p2 : p2 < gN G) (hk_p2 : gK G p2 = 50) (hl_p2 : gL G p2 = 16) {v1 : Int32} {v3 : Int32} (h : (((I 3 0) ≤ v3) → Wx z 0 0 72 [(0, .ref ((zB z).size + 46)), (1, .int v1), (2, .ref ((zB z).size + p2)), (3, .int 0), (4, .int 0)] [] G I L) ∧ ((¬ (I 3 0) ≤ v3) → vp_in v3 16 ∧ vp_in v3 16 ∧ vp_in v3 16 ∧ Wx z 0 0 2 [(0, .ref ((zB z).size + 46)), (1, .int v1), (2, .ref ((zB z).size + p2)), (3, .int (v3 + 1))] [] G (setI I 51 (upd (I 51) v3.toNatClampNeg (((1 : Int32) + (q_bc (v1 &&& (I 5 v3.toNatClampNeg)))) + ((17 : Int32) * (q_bc (v1 &&& (I 4 v3.toNatClampNeg))))))) L)) : Wx z 0 0 2 [(0, .ref ((zB z).size + 46)), (1, .int v1), (2, .ref ((zB z).size + p2)), (3, .int v3)] [] G I L := by
  have hz1 := hz.1
  refine am_iload_n hz1 dX2_markAll_2 3 rfl rfl ?_
  refine am_aload_n hz1 dX2_markAll_3 0 rfl rfl ?_
  refine am_getR hz1 fl_X2_39 (ln_46 hG) (lk_46 hG) (lr_46_2 hG) rfl dX2_markAll_4 ?_
  refine am_getI hz1 fl_X2_60 (ln_3 hG) (lk_3 hG) rfl dX2_markAll_7 ?_
  refine am_icmp_ge (tgt := 67) hz1 dX2_markAll_10 (by decide) (fun c1 => ?_) (fun c1 => ?_)
  · replace h := h.1 c1
    refine am_iconst (v := 0) hz1 dX2_markAll_67 (by decide) ?_
    refine am_istore_n (lv' := [(3, .int 0), (0, .ref ((zB z).size + 46)), (1, .int v1), (2, .ref ((zB z).size + p2))]) hz1 dX2_markAll_68 rfl rfl rfl ?_
    refine am_iconst (v := 0) hz1 dX2_markAll_69 (by decide) ?_
    refine am_istore (lv' := [(4, .int 0), (3, .int 0), (0, .ref ((zB z).size + 46)), (1, .int v1), (2, .ref ((zB z).size + p2))]) hz1 dX2_markAll_70 rfl rfl ?_
    exact am_sub (lv' := [(0, .ref ((zB z).size + 46)), (1, .int v1), (2, .ref ((zB z).size + p2)), (3, .int 0), (4, .int 0)]) [2, 3, 4, 1, 0] rfl h
  · replace h := h.2 c1
    refine am_iload_n hz1 dX2_markAll_13 1 rfl rfl ?_
    refine am_aload_n hz1 dX2_markAll_14 0 rfl rfl ?_
    refine am_getR hz1 fl_X2_39 (ln_46 hG) (lk_46 hG) (lr_46_2 hG) rfl dX2_markAll_15 ?_
    refine am_getR hz1 fl_X2_78 (ln_3 hG) (lk_3 hG) (lr_3_2 hG) rfl dX2_markAll_18 ?_
    refine am_iload_n hz1 dX2_markAll_21 3 rfl rfl ?_
    obtain ⟨g2, h⟩ := h
    refine am_iald hz1 (ln_5 hG) (lk_5 hG) (by rw [(ll_5 hG)]; exact g2) dX2_markAll_22 ?_
    refine am_iand hz1 dX2_markAll_23 ?_
    refine am_cSf hz ct_X2_81 [.int (v1 &&& (I 5 v3.toNatClampNeg))] [] (c_J6_bitCount_0f7a4 hG (v1 &&& (I 5 v3.toNatClampNeg)) ) rfl rfl rfl ⟨Nat.le_refl _, Nat.le_refl _⟩ (Nat.le_of_ble_eq_true rfl) dX2_markAll_24 ?_
    refine am_istore (lv' := [(4, .int (q_bc (v1 &&& (I 5 v3.toNatClampNeg)))), (0, .ref ((zB z).size + 46)), (1, .int v1), (2, .ref ((zB z).size + p2)), (3, .int v3)]) hz1 dX2_markAll_27 rfl rfl ?_
    refine am_iload_n hz1 dX2_markAll_29 2 rfl rfl ?_
    refine am_aload_n hz1 dX2_markAll_30 1 rfl rfl ?_
    refine am_getR hz1 fl_X2_39 (ln_46 hG) (lk_46 hG) (lr_46_2 hG) rfl dX2_markAll_31 ?_
    refine am_getR hz1 fl_X2_87 (ln_3 hG) (lk_3 hG) (lr_3_1 hG) rfl dX2_markAll_34 ?_
    refine am_iload_n hz1 dX2_markAll_37 4 rfl rfl ?_
    obtain ⟨g3, h⟩ := h
    refine am_iald hz1 (ln_4 hG) (lk_4 hG) (by rw [(ll_4 hG)]; exact g3) dX2_markAll_38 ?_
    refine am_iand hz1 dX2_markAll_39 ?_
    refine am_cSf hz ct_X2_81 [.int (v1 &&& (I 4 v3.toNatClampNeg))] [] (c_J6_bitCount_0f7a4 hG (v1 &&& (I 4 v3.toNatClampNeg)) ) rfl rfl rfl ⟨Nat.le_refl _, Nat.le_refl _⟩ (Nat.le_of_ble_eq_true rfl) dX2_markAll_40 ?_
    refine am_istore (lv' := [(5, .int (q_bc (v1 &&& (I 4 v3.toNatClampNeg)))), (4, .int (q_bc (v1 &&& (I 5 v3.toNatClampNeg)))), (0, .ref ((zB z).size + 46)), (1, .int v1), (2, .ref ((zB z).size + p2)), (3, .int v3)]) hz1 dX2_markAll_43 rfl rfl ?_
    refine am_aload_n hz1 dX2_markAll_45 2 rfl rfl ?_
    refine am_getR hz1 fl_X2_24 (ln_46 hG) (lk_46 hG) (lr_46_5 hG) rfl dX2_markAll_46 ?_
    refine am_iload_n hz1 dX2_markAll_49 5 rfl rfl ?_
    refine am_iconst (v := 1) hz1 dX2_markAll_50 (by decide) ?_
    refine am_iload hz1 dX2_markAll_51 1 rfl ?_
    refine am_iadd hz1 dX2_markAll_53 ?_
    refine am_bipush (v := 17) hz1 dX2_markAll_54 (by decide) ?_
    refine am_iload hz1 dX2_markAll_56 0 rfl ?_
    refine am_imul hz1 dX2_markAll_58 ?_
    refine am_iadd hz1 dX2_markAll_59 ?_
    obtain ⟨g4, h⟩ := h
    refine am_iast hz1 (ln_51 hG) (lk_51 hG) (by rw [(ll_51 hG)]; exact g4) dX2_markAll_60 ?_
    refine am_iinc (v := v3 + 1) (lv' := [(3, .int (v3 + 1)), (5, .int (q_bc (v1 &&& (I 4 v3.toNatClampNeg)))), (4, .int (q_bc (v1 &&& (I 5 v3.toNatClampNeg)))), (0, .ref ((zB z).size + 46)), (1, .int v1), (2, .ref ((zB z).size + p2))]) hz1 dX2_markAll_61 5 rfl rfl rfl rfl ?_
    refine am_goto (tgt := 2) hz1 dX2_markAll_64 (by decide) ?_
    exact am_sub (lv' := [(0, .ref ((zB z).size + 46)), (1, .int v1), (2, .ref ((zB z).size + p2)), (3, .int (v3 + 1))]) [3, 4, 5, 0] rfl h
set_option maxRecDepth 100000 in
set_option maxHeartbeats 4000000 in
theorem b_X2_markAll_72 {z : amZ} {post : amP} {G : amG} {I : amI} {L : amL} (hz : Go z cX2_markAll RX2 7 (some .int) 1 0 0 post) (hG : Lay G) {p2 : Nat} (hn_p2 : p2 < gN G) (hk_p2 : gK G p2 = 50) (hl_p2 : gL G p2 = 16) {v1 : Int32} {v3 : Int32} {v4 : Int32} (h : (((I 3 0) ≤ v4) → post (some (.int v3)) G I L) ∧ ((¬ (I 3 0) ≤ v4) → ((¬ ((v1 >>> (v4 &&& 31)) &&& (1 : Int32)) = (1 : Int32)) → Wx z 0 0 72 [(0, .ref ((zB z).size + 46)), (1, .int v1), (2, .ref ((zB z).size + p2)), (3, .int v3), (4, .int (v4 + 1))] [] G I L) ∧ ((((v1 >>> (v4 &&& 31)) &&& (1 : Int32)) = (1 : Int32)) → vp_in v4 16 ∧ (szOk I 3) ∧ vp_in v4 16 ∧ (szOk I 3) ∧ vp_in v4 16 ∧ vp_in v4 16 ∧ vp_in v4 16 ∧ vp_in v4 16 ∧ Wx z 0 0 72 [(0, .ref ((zB z).size + 46)), (1, .int v1), (2, .ref ((zB z).size + p2)), (3, .int (v3 + ((((setI I p2 (upd (I p2) v4.toNatClampNeg (((I 51 v4.toNatClampNeg) + ((331 : Int32) * (sqG I (v1 &&& (I 5 v4.toNatClampNeg)) (sz I 3)))) + ((7919 : Int32) * (sqG I (v1 &&& (I 4 v4.toNatClampNeg)) (sz I 3)))))) p2 v4.toNatClampNeg) * ((setI I p2 (upd (I p2) v4.toNatClampNeg (((I 51 v4.toNatClampNeg) + ((331 : Int32) * (sqG I (v1 &&& (I 5 v4.toNatClampNeg)) (sz I 3)))) + ((7919 : Int32) * (sqG I (v1 &&& (I 4 v4.toNatClampNeg)) (sz I 3)))))) p2 v4.toNatClampNeg)) + (1 : Int32)))), (4, .int (v4 + 1))] [] G (setI I p2 (upd (I p2) v4.toNatClampNeg (((I 51 v4.toNatClampNeg) + ((331 : Int32) * (sqG I (v1 &&& (I 5 v4.toNatClampNeg)) (sz I 3)))) + ((7919 : Int32) * (sqG I (v1 &&& (I 4 v4.toNatClampNeg)) (sz I 3)))))) L))) : Wx z 0 0 72 [(0, .ref ((zB z).size + 46)), (1, .int v1), (2, .ref ((zB z).size + p2)), (3, .int v3), (4, .int v4)] [] G I L := by
  have hz1 := hz.1
  refine am_iload hz1 dX2_markAll_72 4 rfl ?_
  refine am_aload_n hz1 dX2_markAll_74 0 rfl rfl ?_
  refine am_getR hz1 fl_X2_39 (ln_46 hG) (lk_46 hG) (lr_46_2 hG) rfl dX2_markAll_75 ?_
  refine am_getI hz1 fl_X2_60 (ln_3 hG) (lk_3 hG) rfl dX2_markAll_78 ?_
  refine am_icmp_ge (tgt := 175) hz1 dX2_markAll_81 (by decide) (fun c1 => ?_) (fun c1 => ?_)
  · replace h := h.1 c1
    refine am_iload_n hz1 dX2_markAll_175 3 rfl rfl ?_
    exact am_ireturn hz dX2_markAll_176 h
  · replace h := h.2 c1
    refine am_iload_n hz1 dX2_markAll_84 1 rfl rfl ?_
    refine am_iload hz1 dX2_markAll_85 4 rfl ?_
    refine am_ishr hz1 dX2_markAll_87 ?_
    refine am_iconst (v := 1) hz1 dX2_markAll_88 (by decide) ?_
    refine am_iand hz1 dX2_markAll_89 ?_
    refine am_iconst (v := 1) hz1 dX2_markAll_90 (by decide) ?_
    refine am_icmp_ne (tgt := 169) hz1 dX2_markAll_91 (by decide) (fun c2 => ?_) (fun c2 => ?_)
    · replace h := h.1 c2
      refine am_iinc (v := v4 + 1) (lv' := [(4, .int (v4 + 1)), (0, .ref ((zB z).size + 46)), (1, .int v1), (2, .ref ((zB z).size + p2)), (3, .int v3)]) hz1 dX2_markAll_169 4 rfl rfl rfl rfl ?_
      refine am_goto (tgt := 72) hz1 dX2_markAll_172 (by decide) ?_
      exact am_sub (lv' := [(0, .ref ((zB z).size + 46)), (1, .int v1), (2, .ref ((zB z).size + p2)), (3, .int v3), (4, .int (v4 + 1))]) [1, 2, 3, 4, 0] rfl h
    · replace h := h.2 c2
      refine am_aload_n hz1 dX2_markAll_94 0 rfl rfl ?_
      refine am_iload_n hz1 dX2_markAll_95 1 rfl rfl ?_
      refine am_aload_n hz1 dX2_markAll_96 0 rfl rfl ?_
      refine am_getR hz1 fl_X2_39 (ln_46 hG) (lk_46 hG) (lr_46_2 hG) rfl dX2_markAll_97 ?_
      refine am_getR hz1 fl_X2_78 (ln_3 hG) (lk_3 hG) (lr_3_2 hG) rfl dX2_markAll_100 ?_
      refine am_iload hz1 dX2_markAll_103 4 rfl ?_
      obtain ⟨g3, h⟩ := h
      refine am_iald hz1 (ln_5 hG) (lk_5 hG) (by rw [(ll_5 hG)]; exact g3) dX2_markAll_105 ?_
      refine am_iand hz1 dX2_markAll_106 ?_
      obtain ⟨g4, h⟩ := h
      refine am_cVf hz cv_X2_90 [.int (v1 &&& (I 5 v4.toNatClampNeg))] [] (c_X2_sumOfSquares hG (v1 &&& (I 5 v4.toNatClampNeg)) g4) (ln_46 hG) (lk_46 hG) rfl rfl rfl ⟨Nat.le_refl _, Nat.le_refl _⟩ (Nat.le_of_ble_eq_true rfl) dX2_markAll_107 ?_
      refine am_istore (lv' := [(5, .int (sqG I (v1 &&& (I 5 v4.toNatClampNeg)) (sz I 3))), (0, .ref ((zB z).size + 46)), (1, .int v1), (2, .ref ((zB z).size + p2)), (3, .int v3), (4, .int v4)]) hz1 dX2_markAll_110 rfl rfl ?_
      refine am_aload_n hz1 dX2_markAll_112 1 rfl rfl ?_
      refine am_iload_n hz1 dX2_markAll_113 2 rfl rfl ?_
      refine am_aload_n hz1 dX2_markAll_114 1 rfl rfl ?_
      refine am_getR hz1 fl_X2_39 (ln_46 hG) (lk_46 hG) (lr_46_2 hG) rfl dX2_markAll_115 ?_
      refine am_getR hz1 fl_X2_87 (ln_3 hG) (lk_3 hG) (lr_3_1 hG) rfl dX2_markAll_118 ?_
      refine am_iload hz1 dX2_markAll_121 5 rfl ?_
      obtain ⟨g5, h⟩ := h
      refine am_iald hz1 (ln_4 hG) (lk_4 hG) (by rw [(ll_4 hG)]; exact g5) dX2_markAll_123 ?_
      refine am_iand hz1 dX2_markAll_124 ?_
      obtain ⟨g6, h⟩ := h
      refine am_cVf hz cv_X2_90 [.int (v1 &&& (I 4 v4.toNatClampNeg))] [] (c_X2_sumOfSquares hG (v1 &&& (I 4 v4.toNatClampNeg)) g6) (ln_46 hG) (lk_46 hG) rfl rfl rfl ⟨Nat.le_refl _, Nat.le_refl _⟩ (Nat.le_of_ble_eq_true rfl) dX2_markAll_125 ?_
      refine am_istore (lv' := [(6, .int (sqG I (v1 &&& (I 4 v4.toNatClampNeg)) (sz I 3))), (5, .int (sqG I (v1 &&& (I 5 v4.toNatClampNeg)) (sz I 3))), (0, .ref ((zB z).size + 46)), (1, .int v1), (2, .ref ((zB z).size + p2)), (3, .int v3), (4, .int v4)]) hz1 dX2_markAll_128 rfl rfl ?_
      refine am_aload_n hz1 dX2_markAll_130 4 rfl rfl ?_
      refine am_iload hz1 dX2_markAll_131 6 rfl ?_
      refine am_aload_n hz1 dX2_markAll_133 2 rfl rfl ?_
      refine am_getR hz1 fl_X2_24 (ln_46 hG) (lk_46 hG) (lr_46_5 hG) rfl dX2_markAll_134 ?_
      refine am_iload hz1 dX2_markAll_137 6 rfl ?_
      obtain ⟨g7, h⟩ := h
      refine am_iald hz1 (ln_51 hG) (lk_51 hG) (by rw [(ll_51 hG)]; exact g7) dX2_markAll_139 ?_
      refine am_sipush (v := 331) hz1 dX2_markAll_140 (by decide) ?_
      refine am_iload hz1 dX2_markAll_143 1 rfl ?_
      refine am_imul hz1 dX2_markAll_145 ?_
      refine am_iadd hz1 dX2_markAll_146 ?_
      refine am_sipush (v := 7919) hz1 dX2_markAll_147 (by decide) ?_
      refine am_iload hz1 dX2_markAll_150 0 rfl ?_
      refine am_imul hz1 dX2_markAll_152 ?_
      refine am_iadd hz1 dX2_markAll_153 ?_
      obtain ⟨g8, h⟩ := h
      refine am_iast hz1 hn_p2 hk_p2 (by rw [hl_p2]; exact g8) dX2_markAll_154 ?_
      refine am_iload_n hz1 dX2_markAll_155 5 rfl rfl ?_
      refine am_aload_n hz1 dX2_markAll_156 4 rfl rfl ?_
      refine am_iload hz1 dX2_markAll_157 6 rfl ?_
      obtain ⟨g9, h⟩ := h
      refine am_iald hz1 hn_p2 hk_p2 (by rw [hl_p2]; exact g9) dX2_markAll_159 ?_
      refine am_aload_n hz1 dX2_markAll_160 4 rfl rfl ?_
      refine am_iload hz1 dX2_markAll_161 6 rfl ?_
      obtain ⟨g10, h⟩ := h
      refine am_iald hz1 hn_p2 hk_p2 (by rw [hl_p2]; exact g10) dX2_markAll_163 ?_
      refine am_imul hz1 dX2_markAll_164 ?_
      refine am_iconst (v := 1) hz1 dX2_markAll_165 (by decide) ?_
      refine am_iadd hz1 dX2_markAll_166 ?_
      refine am_iadd hz1 dX2_markAll_167 ?_
      refine am_istore_n (lv' := [(3, .int (v3 + ((((setI I p2 (upd (I p2) v4.toNatClampNeg (((I 51 v4.toNatClampNeg) + ((331 : Int32) * (sqG I (v1 &&& (I 5 v4.toNatClampNeg)) (sz I 3)))) + ((7919 : Int32) * (sqG I (v1 &&& (I 4 v4.toNatClampNeg)) (sz I 3)))))) p2 v4.toNatClampNeg) * ((setI I p2 (upd (I p2) v4.toNatClampNeg (((I 51 v4.toNatClampNeg) + ((331 : Int32) * (sqG I (v1 &&& (I 5 v4.toNatClampNeg)) (sz I 3)))) + ((7919 : Int32) * (sqG I (v1 &&& (I 4 v4.toNatClampNeg)) (sz I 3)))))) p2 v4.toNatClampNeg)) + (1 : Int32)))), (6, .int (sqG I (v1 &&& (I 4 v4.toNatClampNeg)) (sz I 3))), (5, .int (sqG I (v1 &&& (I 5 v4.toNatClampNeg)) (sz I 3))), (0, .ref ((zB z).size + 46)), (1, .int v1), (2, .ref ((zB z).size + p2)), (4, .int v4)]) hz1 dX2_markAll_168 rfl rfl rfl ?_
      refine am_iinc (v := v4 + 1) (lv' := [(4, .int (v4 + 1)), (3, .int (v3 + ((((setI I p2 (upd (I p2) v4.toNatClampNeg (((I 51 v4.toNatClampNeg) + ((331 : Int32) * (sqG I (v1 &&& (I 5 v4.toNatClampNeg)) (sz I 3)))) + ((7919 : Int32) * (sqG I (v1 &&& (I 4 v4.toNatClampNeg)) (sz I 3)))))) p2 v4.toNatClampNeg) * ((setI I p2 (upd (I p2) v4.toNatClampNeg (((I 51 v4.toNatClampNeg) + ((331 : Int32) * (sqG I (v1 &&& (I 5 v4.toNatClampNeg)) (sz I 3)))) + ((7919 : Int32) * (sqG I (v1 &&& (I 4 v4.toNatClampNeg)) (sz I 3)))))) p2 v4.toNatClampNeg)) + (1 : Int32)))), (6, .int (sqG I (v1 &&& (I 4 v4.toNatClampNeg)) (sz I 3))), (5, .int (sqG I (v1 &&& (I 5 v4.toNatClampNeg)) (sz I 3))), (0, .ref ((zB z).size + 46)), (1, .int v1), (2, .ref ((zB z).size + p2))]) hz1 dX2_markAll_169 6 rfl rfl rfl rfl ?_
      refine am_goto (tgt := 72) hz1 dX2_markAll_172 (by decide) ?_
      exact am_sub (lv' := [(0, .ref ((zB z).size + 46)), (1, .int v1), (2, .ref ((zB z).size + p2)), (3, .int (v3 + ((((setI I p2 (upd (I p2) v4.toNatClampNeg (((I 51 v4.toNatClampNeg) + ((331 : Int32) * (sqG I (v1 &&& (I 5 v4.toNatClampNeg)) (sz I 3)))) + ((7919 : Int32) * (sqG I (v1 &&& (I 4 v4.toNatClampNeg)) (sz I 3)))))) p2 v4.toNatClampNeg) * ((setI I p2 (upd (I p2) v4.toNatClampNeg (((I 51 v4.toNatClampNeg) + ((331 : Int32) * (sqG I (v1 &&& (I 5 v4.toNatClampNeg)) (sz I 3)))) + ((7919 : Int32) * (sqG I (v1 &&& (I 4 v4.toNatClampNeg)) (sz I 3)))))) p2 v4.toNatClampNeg)) + (1 : Int32)))), (4, .int (v4 + 1))]) [4, 5, 6, 1, 0] rfl h
set_option maxRecDepth 100000 in
set_option maxHeartbeats 4000000 in
theorem c_X2_markAll {l : Launch} {D : va_G} {B : Heap} {G : amG} {I : amI} {L : amL} {p2 : Nat} (hG : Lay G) (hn_p2 : p2 < gN G) (hk_p2 : gK G p2 = 50) (hl_p2 : gL G p2 = 16) (v1 : Int32) {n : Nat} {A : Nat → Int32} (hO : OI I 3 n A) (hp : p2 = 52 ∨ p2 = 53) : Mx l D B yX2_markAll cX2_markAll 7 (some .int) 1 0 0 [.ref (B.size + 46), .int v1, .ref (B.size + p2)] G I L (fun r G1 I1 L1 => r = some (.int (mkM n A v1)) ∧ G1 = G ∧ L1 = L ∧ (∀ q, q ≠ 51 → q ≠ p2 → I1 q = I q) ∧ ∀ x, x < n → bt v1 x = true → I1 p2 x = ouM n A v1 x) := by
  refine Mx.of (by decide) rfl rfl (fun z e1 e2 e3 hz => ?_)
  subst e1; subst e2; subst e3
  refine b_X2_markAll_0 hz hG hn_p2 hk_p2 hl_p2 ?_
  have hn := hO.1
  have h16 := hO.2.2.1
  have hb : ∀ x, x < n → I 5 x = bn n A x := hO.2.2.2.2.2.2.1
  have ha : ∀ x, x < n → I 4 x = A x := hO.2.2.2.1
  have second : ∀ X : amI, (∀ q, q ≠ 51 → q ≠ p2 → X q = I q) → (∀ x, x < n → X 51 x = cnM n A v1 x) → (∀ x, x < 0 → bt v1 x = true → X p2 x = ouM n A v1 x) → Wx z 0 0 72 [(0, .ref ((zB z).size + 46)), (1, .int v1), (2, .ref ((zB z).size + p2)), (3, .int (sB (fun x => ouM n A v1 x * ouM n A v1 x + 1) (bt v1) 0)), (4, .int (nI 0))] [] G X L := by
    refine for_up (P := fun k => ∀ X : amI, (∀ q, q ≠ 51 → q ≠ p2 → X q = I q) → (∀ x, x < n → X 51 x = cnM n A v1 x) → (∀ x, x < k → bt v1 x = true → X p2 x = ouM n A v1 x) → Wx z 0 0 72 [(0, .ref ((zB z).size + 46)), (1, .int v1), (2, .ref ((zB z).size + p2)), (3, .int (sB (fun x => ouM n A v1 x * ouM n A v1 x + 1) (bt v1) k)), (4, .int (nI k))] [] G X L) (n := n) ?_ ?_ (Nat.zero_le _)
    · intro X x1 x2 x3
      have xn : X 3 0 = nI n := by rw [x1 3 (by decide) (by omega)]; exact hn
      exact b_X2_markAll_72 hz hG hn_p2 hk_p2 hl_p2 ⟨fun _ => ⟨rfl, rfl, rfl, x1, x3⟩, fun h => absurd (sz_le xn h16) h⟩
    · intro k hk ih X x1 x2 x3
      have xn : X 3 0 = nI n := by rw [x1 3 (by decide) (by omega)]; exact hn
      have hsz : szOk X 3 := ⟨n, hO.2.1, h16, xn⟩
      have hsq : ∀ r : Int32, sqG X r (sz X 3) = sqM n A v1 r := fun r => by
        rw [sz_eq xn h16, sqG, sqM]
        exact sB_c (fun i hi => ⟨rfl, fun _ => by rw [x2 i hi]⟩)
      refine b_X2_markAll_72 hz hG hn_p2 hk_p2 hl_p2 ⟨fun h => absurd h (sz_ge xn h16 hk), fun _ => ?_⟩
      rw [b_bit _ _ (show k < 32 by omega), cl_nI (n := k) (by omega), nI_1, hsq, hsq, x1 5 (by decide) (by omega), x1 4 (by decide) (by omega), hb k hk, ha k hk, x2 k hk, setI_s, upd_s]
      have hstep : sB (fun x => ouM n A v1 x * ouM n A v1 x + 1) (bt v1) (k + 1) = if bt v1 k = true then sB (fun x => ouM n A v1 x * ouM n A v1 x + 1) (bt v1) k + (ouM n A v1 k * ouM n A v1 k + 1) else sB (fun x => ouM n A v1 x * ouM n A v1 x + 1) (bt v1) k := by rw [sB]
      refine ⟨fun q => ?_, fun q => ⟨in16 h16 hk, hsz, in16 h16 hk, hsz, in16 h16 hk, in16 h16 hk, in16 h16 hk, in16 h16 hk, ?_⟩⟩
      · rw [if_neg q] at hstep
        rw [hstep] at ih
        exact ih X x1 x2 (fun x hx hb => by
          by_cases e : x = k
          · rw [e] at hb; exact absurd hb q
          · exact x3 x (by omega) hb)
      · rw [if_pos q] at hstep
        rw [hstep] at ih
        exact ih (setI X p2 (upd (X p2) k (ouM n A v1 k))) (fun q a b => by rw [setI_n b]; exact x1 q a b) (fun x hx => by rw [setI_n (by omega)]; exact x2 x hx) (fun x hx hb => by
          rw [setI_s]
          by_cases e : x = k
          · rw [e, upd_s]
          · rw [upd_n e]; exact x3 x (by omega) hb)
  have first : ∀ f : Nat → Int32, (∀ x, x < 0 → f x = cnM n A v1 x) → Wx z 0 0 2 [(0, .ref ((zB z).size + 46)), (1, .int v1), (2, .ref ((zB z).size + p2)), (3, .int (nI 0))] [] G (setI I 51 f) L := by
    refine for_up (P := fun k => ∀ f : Nat → Int32, (∀ x, x < k → f x = cnM n A v1 x) → Wx z 0 0 2 [(0, .ref ((zB z).size + 46)), (1, .int v1), (2, .ref ((zB z).size + p2)), (3, .int (nI k))] [] G (setI I 51 f) L) (n := n) ?_ ?_ (Nat.zero_le _)
    · intro f hf
      have xn : setI I 51 f 3 0 = nI n := by rw [setI_n (by decide)]; exact hn
      exact b_X2_markAll_2 hz hG hn_p2 hk_p2 hl_p2 ⟨fun _ => second _ (fun q a _ => setI_n a) (fun x hx => by rw [setI_s]; exact hf x hx) (fun x hx => absurd hx (Nat.not_lt_zero _)), fun h => absurd (sz_le xn h16) h⟩
    · intro k hk ih f hf
      have xn : setI I 51 f 3 0 = nI n := by rw [setI_n (by decide)]; exact hn
      refine b_X2_markAll_2 hz hG hn_p2 hk_p2 hl_p2 ⟨fun h => absurd h (sz_ge xn h16 hk), fun _ => ⟨in16 h16 hk, in16 h16 hk, in16 h16 hk, ?_⟩⟩
      rw [cl_nI (n := k) (by omega), nI_1, setI_n (q := 5) (by decide), setI_n (q := 4) (by decide), hb k hk, ha k hk, setI_ss, setI_s]
      refine ih _ (fun x hx => ?_)
      by_cases e : x = k
      · rw [e, upd_s]; rfl
      · rw [upd_n e]; exact hf x (by omega)
  have := first (I 51) (fun x hx => absurd hx (Nat.not_lt_zero _))
  rw [setI_id] at this
  exact this
