/-! THE CLASS: orders formed -/
section FO
variable {l : Launch} {D : va_G} {B : Heap} {G : amG} {I I2 : amI} {L : amL} {s : St} {D0 : Nat}
def adF (l : Launch) (D : va_G) (B : Heap) (D0 : Nat) (s : St) (m : Nat) (A : Nat → Int32) (G : amG) (I : amI) (L : amL) (G2 : amG) (I2 : amI) (L2 : amL) : Prop := ∃ (d2 mc2 ms2 : Nat) (post2 : amP), Nat.ble (d2 + 1) D0 = true ∧ (0 + 0 + mc2 ≤ 5 ∧ 0 + 0 + ms2 ≤ 1078) ∧ Mx l D B yX11_adoptDraft cX11_adoptDraft 1 (some .int) d2 mc2 ms2 [.ref (B.size + 0)] G2 I2 L2 post2 ∧ ∀ (ro2 : Option Value) (G3 : amG) (I3 : amI) (L3 : amL), post2 ro2 G3 I3 L3 → ∃ (r2 : Int32), ro2 = some (.int r2) ∧ Lay G3 ∧ CA (adoptS s m A) (nI m) G I L (some (.int r2)) G3 I3 L3
theorem AD_C {m : Nat} {A : Nat → Int32} (hs : CO s G I L) (hw : WF s) (hd : dO I2 m A) (e : ∀ q, (q < 10 ∨ 18 < q) → I2 q = I q) (hD : Nat.ble 5 D0 = true) : adF l D B D0 s m A G I L G I2 L :=
  ⟨4, 5, 1078, _, hD, ⟨by omega, by omega⟩, c_X11_adoptDraft hs.1 (CO_d hs e).1 hw hd, fun ro2 G3 I3 L3 ⟨u1, u2, u3, u4⟩ => ⟨_, u1, u2.1, rfl, u2, frK_t (CO_d hs e).2 u3, u4⟩⟩
theorem dm_fr {m : Nat} {f : Nat → Int32} : ∀ q, (q < 10 ∨ 18 < q) → dm I m f q = I q := fun q hq => dm_o (by omega) (by omega)
theorem bn_bits {n x i : Nat} {A : Nat → Int32} (hP : PO n A) (h16 : n ≤ 16) (hi : i < 32) (hx : n ≤ x) (hx2 : x < 32) : bt (bn n A x) i = false := by
  rw [bn_bt (by omega) hi, Bool.eq_false_iff]
  intro q
  rw [Bool.and_eq_true, decide_eq_true_eq] at q
  have := hP.1 i q.1 x hx2 q.2
  omega
def upF (l : Launch) (D : va_G) (B : Heap) (D0 : Nat) (y : MethodName) (c : ByteArray) (mL : Nat) (av : List Value) (s : St) (m : Nat) (A : Nat → Int32) (G : amG) (I : amI) (L : amL) : Prop := ∃ (d1 mc1 ms1 : Nat) (post1 : amP), Nat.ble (d1 + 1) D0 = true ∧ (0 + mc1 ≤ 5 ∧ 0 + ms1 ≤ 1078) ∧ Mx l D B y c mL none d1 mc1 ms1 av G I L post1 ∧ ∀ (ro1 : Option Value) (G2 : amG) (I2 : amI) (L2 : amL), post1 ro1 G2 I2 L2 → ro1 = none ∧ Lay G2 ∧ ∃ (d2 mc2 ms2 : Nat) (post2 : amP), Nat.ble (d2 + 1) D0 = true ∧ (0 + mc1 + mc2 ≤ 5 ∧ 0 + ms1 + ms2 ≤ 1078) ∧ Mx l D B yX11_adoptDraft cX11_adoptDraft 1 (some .int) d2 mc2 ms2 [.ref (B.size + 0)] G2 I2 L2 post2 ∧ ∀ (ro2 : Option Value) (G3 : amG) (I3 : amI) (L3 : amL), post2 ro2 G3 I3 L3 → ∃ (r2 : Int32), ro2 = some (.int r2) ∧ Lay G3 ∧ CA (adoptS s m A) (nI m) G I L (some (.int r2)) G3 I3 L3
theorem TURN_C (hs : CO s G I L) (hw : WF s) (hD : Nat.ble 5 D0 = true) : upF l D B D0 yX4_becomeTurned cX4_becomeTurned 2 [.ref (B.size + 10), .ref (B.size + 3)] s (rN (sC s)) (bn (rN (sC s)) (rA (sC s))) G I L := by
  have hO := hs.2.1.1
  have h16 := hO.2.2.1
  have h1 := hO.2.1
  have hP := hO.2.2.2.2.2.1
  refine ⟨2, 0, 0, _, Nat.ble_eq_true_of_le (Nat.le_trans (by decide) (Nat.le_of_ble_eq_true hD)), ⟨by omega, by omega⟩, c_X4_becomeTurned hs.1 hO.1 h1 h16, fun ro G2 I2 L2 ⟨r1, r2, r3, f, r4, r5⟩ => ⟨r1, by rw [r2]; exact hs.1, ?_⟩⟩
  rw [r2, r3, r4]
  exact AD_C hs hw ⟨dm_10, h1, h16, fun x hx => by rw [dm_11, r5 x (by omega)]; exact hO.2.2.2.2.2.2.1 x hx, fun x a b => by rw [dm_11, r5 x b]; exact hO.2.2.2.2.2.2.2.2.2.2.2 x a b, turn_PO hP (by omega)⟩ dm_fr hD
theorem PART_C {S : Int32} (hs : CO s G I L) (hw : WF s) (hD : Nat.ble 5 D0 = true) (hS : ∀ i, i < 32 → bt S i = true → i < rN (sC s)) (hm : 1 ≤ ct (bt S) (rN (sC s))) : upF l D B D0 yX4_becomePart cX4_becomePart 5 [.ref (B.size + 10), .ref (B.size + 3), .int S] s (ct (bt S) (rN (sC s))) (parA (rN (sC s)) (rA (sC s)) S) G I L := by
  have hO := hs.2.1.1
  have h16 := hO.2.2.1
  have hP := hO.2.2.2.2.2.1
  have hc := ct_le (bt S) (rN (sC s))
  refine ⟨2, 0, 0, _, Nat.ble_eq_true_of_le (Nat.le_trans (by decide) (Nat.le_of_ble_eq_true hD)), ⟨by omega, by omega⟩, c_X4_becomePart hs.1 _ hO.1 h16 hS hm, fun ro G2 I2 L2 ⟨r1, r2, r3, f, r4, r5, r6⟩ => ⟨r1, by rw [r2]; exact hs.1, ?_⟩⟩
  rw [r2, r3, r4]
  refine AD_C hs hw ⟨dm_10, hm, by omega, fun j hj => ?_, fun x a b => by rw [dm_11]; exact r6 x a b, par_PO hP h16⟩ dm_fr hD
  obtain ⟨k1, k2, k3⟩ := elN_in hj
  have := r5 _ k1 k2
  rw [k3] at this
  rw [dm_11, this, show I 4 _ = _ from hO.2.2.2.1 _ k1, pkv_p _ _ _ h16]
  apply b_ext
  intro i hi
  rw [pkp_b _ h16 i hi, par_b h16 hj hi]
theorem BOTH_C {r : Nat} {h : Shf} {v : Int32} {up : Bool} (hs : CO s G I L) (hw : WF s) (hD : Nat.ble 5 D0 = true) (hr : r = 20 ∨ r = 27) (hO2 : OI I r h.1 h.2) (hn : rN (sC s) + h.1 ≤ 16) (hv : v = bI up) : upF l D B D0 yX4_becomeBoth cX4_becomeBoth 6 [.ref (B.size + 10), .ref (B.size + 3), .ref (B.size + r), .int v] s (rN (sC s) + h.1) (botA (rN (sC s)) h.1 (rA (sC s)) h.2 up) G I L := by
  have hO := hs.2.1.1
  have h1 := hO.2.1
  have hP := hO.2.2.2.2.2.1
  refine ⟨2, 0, 0, _, Nat.ble_eq_true_of_le (Nat.le_trans (by decide) (Nat.le_of_ble_eq_true hD)), ⟨by omega, by omega⟩, c_X4_becomeBoth hs.1 (hr.elim (fun e => Or.inr (Or.inr (Or.inl e))) (fun e => Or.inr (Or.inr (Or.inr e)))) _ hr hO.1 hO2.1 h1 hn, fun ro G2 I2 L2 ⟨r1, r2, r3, f, r4, r5, r6, r7⟩ => ⟨r1, by rw [r2]; exact hs.1, ?_⟩⟩
  rw [r2, r3, r4]
  refine AD_C hs hw ⟨dm_10, by omega, hn, fun j hj => ?_, fun x a b => by rw [dm_11]; exact r7 x a b, bot_PO hP hO2.2.2.2.2.2.1 hn⟩ dm_fr hD
  rw [dm_11, botA]
  by_cases e : j < rN (sC s)
  · rw [if_pos e, r5 j e, show I 4 j = _ from hO.2.2.2.1 j e, q_all, hO2.1, hv]
    cases up <;> rfl
  · obtain ⟨k, rfl⟩ : ∃ k, j = rN (sC s) + k := ⟨j - rN (sC s), by omega⟩
    rw [if_neg e, if_pos hj, r6 k (by omega), hO2.2.2.2.1 k (by omega), Nat.add_sub_cancel_left]
theorem pfv_b {r n k x y : Nat} {A A0 : Nat → Int32} (hO : OI I 3 n A) (hO2 : OI I r k A0) (hx : x < n) (hy : y < k) (h16 : n * k ≤ 16) : ∀ w, w ≤ n → ∀ i, i < 32 → bt (pfv I r (nI x) (nI y) w) i = (decide (i < w * k) && (le A x (i / k) && le A0 y (i % k)))
  | 0, _, i, hi => by rw [pfv, b_0, Nat.zero_mul, decide_eq_false (Nat.not_lt_zero _), Bool.false_and]
  | w + 1, hw, i, hi => by
    have hn16 := hO.2.2.1
    have hk16 := hO2.2.2.1
    have hk1 := hO2.2.1
    have hP0 := hO2.2.2.2.2.2.1
    have ih := pfv_b hO hO2 hx hy h16 w (by omega) i hi
    have hwk : w * k + k ≤ 16 := by
      have : (w + 1) * k ≤ n * k := Nat.mul_le_mul_right k hw
      rw [Nat.succ_mul] at this; omega
    rw [pfv, hO.am hx (by omega), Nat.succ_mul]
    have hin : w * k ≤ i → i < w * k + k → i / k = w ∧ i % k = i - w * k := fun a b => by
      obtain ⟨j, rfl⟩ : ∃ j, i = w * k + j := ⟨i - w * k, by omega⟩
      have hj : j < k := by omega
      rw [Nat.mul_comm w k, Nat.mul_add_div (by omega), Nat.div_eq_of_lt hj, Nat.mul_add_mod, Nat.mod_eq_of_lt hj]
      omega
    by_cases q : le A x w = true
    · rw [if_pos q, b_or, ih, hO2.1, nI_mul, b_shl _ (by omega) _ hi, hO2.from hy, up_b]
      by_cases e1 : i < w * k
      · rw [decide_eq_true e1, decide_eq_false (show ¬ w * k ≤ i by omega), decide_eq_true (show i < w * k + k by omega), Bool.false_and, Bool.or_false]
      · rw [decide_eq_false e1, decide_eq_true (show w * k ≤ i by omega), Bool.false_and, Bool.false_or, Bool.true_and]
        by_cases e2 : i < w * k + k
        · obtain ⟨g1, g2⟩ := hin (by omega) e2
          rw [decide_eq_true e2, g1, g2, q, Bool.true_and, Bool.true_and]
        · rw [decide_eq_false e2, Bool.false_and, Bool.eq_false_iff]
          intro g
          have := le_n hP0 hy (by omega) (show i - w * k < 32 by omega) g
          omega
    · rw [if_neg q, ih]
      rw [Bool.not_eq_true] at q
      by_cases e1 : i < w * k
      · rw [decide_eq_true e1, decide_eq_true (show i < w * k + k by omega)]
      · rw [decide_eq_false e1, Bool.false_and]
        by_cases e2 : i < w * k + k
        · obtain ⟨g1, g2⟩ := hin (by omega) e2
          rw [g1, q, Bool.false_and, Bool.and_false]
        · rw [decide_eq_false e2, Bool.false_and]
theorem PAIRS_C {r : Nat} {h : Shf} (hs : CO s G I L) (hw : WF s) (hD : Nat.ble 5 D0 = true) (hr : r = 20 ∨ r = 27) (hO2 : OI I r h.1 h.2) (hn : rN (sC s) * h.1 ≤ 16) : upF l D B D0 yX4_becomePairs cX4_becomePairs 6 [.ref (B.size + 10), .ref (B.size + 3), .ref (B.size + r)] s (rN (sC s) * h.1) (prsA (rN (sC s)) h.1 (rA (sC s)) h.2) G I L := by
  have hO := hs.2.1.1
  have h16 := hO.2.2.1
  have h1 := hO.2.1
  have hP := hO.2.2.2.2.2.1
  have hk1 := hO2.2.1
  have hk16 := hO2.2.2.1
  refine ⟨4, 0, 0, _, Nat.ble_eq_true_of_le (Nat.le_trans (by decide) (Nat.le_of_ble_eq_true hD)), ⟨by omega, by omega⟩, c_X4_becomePairs hs.1 (hr.elim (fun e => Or.inr (Or.inr (Or.inl e))) (fun e => Or.inr (Or.inr (Or.inr e)))) hr hO.1 hO2.1 h1 hk1 h16 hk16 hn, fun ro G2 I2 L2 ⟨r1, r2, r3, f, r4, r5, r6⟩ => ⟨r1, by rw [r2]; exact hs.1, ?_⟩⟩
  rw [r2, r3, r4]
  refine AD_C hs hw ⟨dm_10, Nat.mul_pos h1 hk1, hn, fun j hj => ?_, fun x a b => by rw [dm_11]; exact r6 x a b, prs_PO hP hO2.2.2.2.2.2.1 h16 hk1 hk16 hn⟩ dm_fr hD
  obtain ⟨g1, g2⟩ := dv_lt hk1 hj
  rw [dm_11, r5 j hj, PFv, q_pf, sz_eq hO.1 h16]
  apply b_ext
  intro i hi
  rw [b_and, b_not _ hi, b_one j (by omega) hi, pfv_b hO hO2 g1 g2 hn _ (Nat.le_refl _) i hi, prs_b hn hj hi]
  by_cases e : i = j
  · rw [decide_eq_true e, decide_eq_false (not_not_intro e), Bool.false_and, Bool.and_false]; exact Bool.and_false _
  · rw [decide_eq_false e, decide_eq_true (show ¬ i = j from e), Bool.true_and]; exact Bool.and_true _
end FO
def XK (s : St) (how a : Int32) : Int32 × St := if inR 1 a = true then (if (shJ s a.toNatClampNeg).1 = 0 then (-1, s) else xFormK s how (shJ s a.toNatClampNeg)) else (-1, s)
theorem kp_no {s : St} {G : amG} {I : amI} {L : amL} {how a : Int32} (hs : CO s G I L) (h : kpB I a = false) : XK s how a = (-1, s) := by
  rw [XK]
  by_cases q : inR 1 a = true
  · rw [if_pos q]
    obtain ⟨j, hj, rfl⟩ := (inR_t (by decide)).mp q
    have : bt (I 0 14) j = false := by
      rw [kpB, (el_t (n := 2) (by decide)).mpr ⟨j, by omega, rfl⟩, Bool.true_and, cl_nI (by omega)] at h
      exact h
    rw [cl_nI (by omega), if_pos]
    rcases (show j = 0 ∨ j = 1 by omega) with e | e <;> subst e
    · rcases hs.2.1.2.2.2.2.2.1 with ⟨a, b⟩ | ⟨a, b⟩
      · exact a
      · rw [this] at b; cases b
    · rcases hs.2.1.2.2.2.2.2.2.1 with ⟨a, b⟩ | ⟨a, b⟩
      · exact a
      · rw [this] at b; cases b
  · rw [if_neg q]
theorem add_n {a b : Nat} : nI a + nI b ≤ 16 ↔ nI (a + b) ≤ nI 16 := by rw [nI_add]; exact Iff.rfl
set_option maxRecDepth 100000 in
set_option maxHeartbeats 4000000 in
theorem b_X11_formWithKept_0 {z : amZ} {ce sl mc ms : Nat} {post : amP} {G : amG} {I : amI} {L : amL} (hz : Go z cX11_formWithKept RX11 5 (some .int) 5 mc ms post) (hce : ce ≤ mc ∧ sl ≤ ms) (hG : Lay G) {v1 : Int32} {v2 : Int32} (h : ((kpB I v2 = true) → vp_in v2 2 ∧ (v2 = 0 → ((¬ v1 = (5 : Int32)) → ((((I 3 0) + (I 20 0)) ≤ (16 : Int32)) → ((¬ v1 = (5 : Int32)) → ((¬ v1 = (4 : Int32)) → ∃ (dq8 mcq8 msq8 : Nat) (postq8 : amP), Nat.ble (dq8 + 1) 5 = true ∧ (ce + mcq8 ≤ mc ∧ sl + msq8 ≤ ms) ∧ Mx (zL z) (zD z) (zB z) yX4_becomeBoth cX4_becomeBoth 6 none dq8 mcq8 msq8 [.ref ((zB z).size + 10), .ref ((zB z).size + 3), .ref ((zB z).size + 20), .int 0] G I L postq8 ∧ ∀ (roq8 : Option Value) (Gq8 : amG) (Iq8 : amI) (Lq8 : amL), postq8 roq8 Gq8 Iq8 Lq8 → roq8 = none ∧ Lay Gq8 ∧ ∃ (dq9 mcq9 msq9 : Nat) (postq9 : amP), Nat.ble (dq9 + 1) 5 = true ∧ (ce + mcq8 + mcq9 ≤ mc ∧ sl + msq8 + msq9 ≤ ms) ∧ Mx (zL z) (zD z) (zB z) yX11_adoptDraft cX11_adoptDraft 1 (some .int) dq9 mcq9 msq9 [.ref ((zB z).size + 0)] Gq8 Iq8 Lq8 postq9 ∧ ∀ (roq9 : Option Value) (Gq9 : amG) (Iq9 : amI) (Lq9 : amL), postq9 roq9 Gq9 Iq9 Lq9 → ∃ (rq9 : Int32), roq9 = some (.int rq9) ∧ Lay Gq9 ∧ post (some (.int rq9)) Gq9 Iq9 Lq9) ∧ ((v1 = (4 : Int32)) → ∃ (dq10 mcq10 msq10 : Nat) (postq10 : amP), Nat.ble (dq10 + 1) 5 = true ∧ (ce + mcq10 ≤ mc ∧ sl + msq10 ≤ ms) ∧ Mx (zL z) (zD z) (zB z) yX4_becomeBoth cX4_becomeBoth 6 none dq10 mcq10 msq10 [.ref ((zB z).size + 10), .ref ((zB z).size + 3), .ref ((zB z).size + 20), .int 1] G I L postq10 ∧ ∀ (roq10 : Option Value) (Gq10 : amG) (Iq10 : amI) (Lq10 : amL), postq10 roq10 Gq10 Iq10 Lq10 → roq10 = none ∧ Lay Gq10 ∧ ∃ (dq11 mcq11 msq11 : Nat) (postq11 : amP), Nat.ble (dq11 + 1) 5 = true ∧ (ce + mcq10 + mcq11 ≤ mc ∧ sl + msq10 + msq11 ≤ ms) ∧ Mx (zL z) (zD z) (zB z) yX11_adoptDraft cX11_adoptDraft 1 (some .int) dq11 mcq11 msq11 [.ref ((zB z).size + 0)] Gq10 Iq10 Lq10 postq11 ∧ ∀ (roq11 : Option Value) (Gq11 : amG) (Iq11 : amI) (Lq11 : amL), postq11 roq11 Gq11 Iq11 Lq11 → ∃ (rq11 : Int32), roq11 = some (.int rq11) ∧ Lay Gq11 ∧ post (some (.int rq11)) Gq11 Iq11 Lq11)) ∧ ((v1 = (5 : Int32)) → ∃ (dq12 mcq12 msq12 : Nat) (postq12 : amP), Nat.ble (dq12 + 1) 5 = true ∧ (ce + mcq12 ≤ mc ∧ sl + msq12 ≤ ms) ∧ Mx (zL z) (zD z) (zB z) yX4_becomePairs cX4_becomePairs 6 none dq12 mcq12 msq12 [.ref ((zB z).size + 10), .ref ((zB z).size + 3), .ref ((zB z).size + 20)] G I L postq12 ∧ ∀ (roq12 : Option Value) (Gq12 : amG) (Iq12 : amI) (Lq12 : amL), postq12 roq12 Gq12 Iq12 Lq12 → roq12 = none ∧ Lay Gq12 ∧ ∃ (dq13 mcq13 msq13 : Nat) (postq13 : amP), Nat.ble (dq13 + 1) 5 = true ∧ (ce + mcq12 + mcq13 ≤ mc ∧ sl + msq12 + msq13 ≤ ms) ∧ Mx (zL z) (zD z) (zB z) yX11_adoptDraft cX11_adoptDraft 1 (some .int) dq13 mcq13 msq13 [.ref ((zB z).size + 0)] Gq12 Iq12 Lq12 postq13 ∧ ∀ (roq13 : Option Value) (Gq13 : amG) (Iq13 : amI) (Lq13 : amL), postq13 roq13 Gq13 Iq13 Lq13 → ∃ (rq13 : Int32), roq13 = some (.int rq13) ∧ Lay Gq13 ∧ post (some (.int rq13)) Gq13 Iq13 Lq13)) ∧ ((¬ ((I 3 0) + (I 20 0)) ≤ (16 : Int32)) → post (some (.int (-2))) G I L)) ∧ ((v1 = (5 : Int32)) → ((((I 3 0) * (I 20 0)) ≤ (16 : Int32)) → ((¬ v1 = (5 : Int32)) → ((¬ v1 = (4 : Int32)) → ∃ (dq17 mcq17 msq17 : Nat) (postq17 : amP), Nat.ble (dq17 + 1) 5 = true ∧ (ce + mcq17 ≤ mc ∧ sl + msq17 ≤ ms) ∧ Mx (zL z) (zD z) (zB z) yX4_becomeBoth cX4_becomeBoth 6 none dq17 mcq17 msq17 [.ref ((zB z).size + 10), .ref ((zB z).size + 3), .ref ((zB z).size + 20), .int 0] G I L postq17 ∧ ∀ (roq17 : Option Value) (Gq17 : amG) (Iq17 : amI) (Lq17 : amL), postq17 roq17 Gq17 Iq17 Lq17 → roq17 = none ∧ Lay Gq17 ∧ ∃ (dq18 mcq18 msq18 : Nat) (postq18 : amP), Nat.ble (dq18 + 1) 5 = true ∧ (ce + mcq17 + mcq18 ≤ mc ∧ sl + msq17 + msq18 ≤ ms) ∧ Mx (zL z) (zD z) (zB z) yX11_adoptDraft cX11_adoptDraft 1 (some .int) dq18 mcq18 msq18 [.ref ((zB z).size + 0)] Gq17 Iq17 Lq17 postq18 ∧ ∀ (roq18 : Option Value) (Gq18 : amG) (Iq18 : amI) (Lq18 : amL), postq18 roq18 Gq18 Iq18 Lq18 → ∃ (rq18 : Int32), roq18 = some (.int rq18) ∧ Lay Gq18 ∧ post (some (.int rq18)) Gq18 Iq18 Lq18) ∧ ((v1 = (4 : Int32)) → ∃ (dq19 mcq19 msq19 : Nat) (postq19 : amP), Nat.ble (dq19 + 1) 5 = true ∧ (ce + mcq19 ≤ mc ∧ sl + msq19 ≤ ms) ∧ Mx (zL z) (zD z) (zB z) yX4_becomeBoth cX4_becomeBoth 6 none dq19 mcq19 msq19 [.ref ((zB z).size + 10), .ref ((zB z).size + 3), .ref ((zB z).size + 20), .int 1] G I L postq19 ∧ ∀ (roq19 : Option Value) (Gq19 : amG) (Iq19 : amI) (Lq19 : amL), postq19 roq19 Gq19 Iq19 Lq19 → roq19 = none ∧ Lay Gq19 ∧ ∃ (dq20 mcq20 msq20 : Nat) (postq20 : amP), Nat.ble (dq20 + 1) 5 = true ∧ (ce + mcq19 + mcq20 ≤ mc ∧ sl + msq19 + msq20 ≤ ms) ∧ Mx (zL z) (zD z) (zB z) yX11_adoptDraft cX11_adoptDraft 1 (some .int) dq20 mcq20 msq20 [.ref ((zB z).size + 0)] Gq19 Iq19 Lq19 postq20 ∧ ∀ (roq20 : Option Value) (Gq20 : amG) (Iq20 : amI) (Lq20 : amL), postq20 roq20 Gq20 Iq20 Lq20 → ∃ (rq20 : Int32), roq20 = some (.int rq20) ∧ Lay Gq20 ∧ post (some (.int rq20)) Gq20 Iq20 Lq20)) ∧ ((v1 = (5 : Int32)) → ∃ (dq21 mcq21 msq21 : Nat) (postq21 : amP), Nat.ble (dq21 + 1) 5 = true ∧ (ce + mcq21 ≤ mc ∧ sl + msq21 ≤ ms) ∧ Mx (zL z) (zD z) (zB z) yX4_becomePairs cX4_becomePairs 6 none dq21 mcq21 msq21 [.ref ((zB z).size + 10), .ref ((zB z).size + 3), .ref ((zB z).size + 20)] G I L postq21 ∧ ∀ (roq21 : Option Value) (Gq21 : amG) (Iq21 : amI) (Lq21 : amL), postq21 roq21 Gq21 Iq21 Lq21 → roq21 = none ∧ Lay Gq21 ∧ ∃ (dq22 mcq22 msq22 : Nat) (postq22 : amP), Nat.ble (dq22 + 1) 5 = true ∧ (ce + mcq21 + mcq22 ≤ mc ∧ sl + msq21 + msq22 ≤ ms) ∧ Mx (zL z) (zD z) (zB z) yX11_adoptDraft cX11_adoptDraft 1 (some .int) dq22 mcq22 msq22 [.ref ((zB z).size + 0)] Gq21 Iq21 Lq21 postq22 ∧ ∀ (roq22 : Option Value) (Gq22 : amG) (Iq22 : amI) (Lq22 : amL), postq22 roq22 Gq22 Iq22 Lq22 → ∃ (rq22 : Int32), roq22 = some (.int rq22) ∧ Lay Gq22 ∧ post (some (.int rq22)) Gq22 Iq22 Lq22)) ∧ ((¬ ((I 3 0) * (I 20 0)) ≤ (16 : Int32)) → post (some (.int (-2))) G I L))) ∧ (v2 = 1 → ((¬ v1 = (5 : Int32)) → ((((I 3 0) + (I 27 0)) ≤ (16 : Int32)) → ((¬ v1 = (5 : Int32)) → ((¬ v1 = (4 : Int32)) → ∃ (dq27 mcq27 msq27 : Nat) (postq27 : amP), Nat.ble (dq27 + 1) 5 = true ∧ (ce + mcq27 ≤ mc ∧ sl + msq27 ≤ ms) ∧ Mx (zL z) (zD z) (zB z) yX4_becomeBoth cX4_becomeBoth 6 none dq27 mcq27 msq27 [.ref ((zB z).size + 10), .ref ((zB z).size + 3), .ref ((zB z).size + 27), .int 0] G I L postq27 ∧ ∀ (roq27 : Option Value) (Gq27 : amG) (Iq27 : amI) (Lq27 : amL), postq27 roq27 Gq27 Iq27 Lq27 → roq27 = none ∧ Lay Gq27 ∧ ∃ (dq28 mcq28 msq28 : Nat) (postq28 : amP), Nat.ble (dq28 + 1) 5 = true ∧ (ce + mcq27 + mcq28 ≤ mc ∧ sl + msq27 + msq28 ≤ ms) ∧ Mx (zL z) (zD z) (zB z) yX11_adoptDraft cX11_adoptDraft 1 (some .int) dq28 mcq28 msq28 [.ref ((zB z).size + 0)] Gq27 Iq27 Lq27 postq28 ∧ ∀ (roq28 : Option Value) (Gq28 : amG) (Iq28 : amI) (Lq28 : amL), postq28 roq28 Gq28 Iq28 Lq28 → ∃ (rq28 : Int32), roq28 = some (.int rq28) ∧ Lay Gq28 ∧ post (some (.int rq28)) Gq28 Iq28 Lq28) ∧ ((v1 = (4 : Int32)) → ∃ (dq29 mcq29 msq29 : Nat) (postq29 : amP), Nat.ble (dq29 + 1) 5 = true ∧ (ce + mcq29 ≤ mc ∧ sl + msq29 ≤ ms) ∧ Mx (zL z) (zD z) (zB z) yX4_becomeBoth cX4_becomeBoth 6 none dq29 mcq29 msq29 [.ref ((zB z).size + 10), .ref ((zB z).size + 3), .ref ((zB z).size + 27), .int 1] G I L postq29 ∧ ∀ (roq29 : Option Value) (Gq29 : amG) (Iq29 : amI) (Lq29 : amL), postq29 roq29 Gq29 Iq29 Lq29 → roq29 = none ∧ Lay Gq29 ∧ ∃ (dq30 mcq30 msq30 : Nat) (postq30 : amP), Nat.ble (dq30 + 1) 5 = true ∧ (ce + mcq29 + mcq30 ≤ mc ∧ sl + msq29 + msq30 ≤ ms) ∧ Mx (zL z) (zD z) (zB z) yX11_adoptDraft cX11_adoptDraft 1 (some .int) dq30 mcq30 msq30 [.ref ((zB z).size + 0)] Gq29 Iq29 Lq29 postq30 ∧ ∀ (roq30 : Option Value) (Gq30 : amG) (Iq30 : amI) (Lq30 : amL), postq30 roq30 Gq30 Iq30 Lq30 → ∃ (rq30 : Int32), roq30 = some (.int rq30) ∧ Lay Gq30 ∧ post (some (.int rq30)) Gq30 Iq30 Lq30)) ∧ ((v1 = (5 : Int32)) → ∃ (dq31 mcq31 msq31 : Nat) (postq31 : amP), Nat.ble (dq31 + 1) 5 = true ∧ (ce + mcq31 ≤ mc ∧ sl + msq31 ≤ ms) ∧ Mx (zL z) (zD z) (zB z) yX4_becomePairs cX4_becomePairs 6 none dq31 mcq31 msq31 [.ref ((zB z).size + 10), .ref ((zB z).size + 3), .ref ((zB z).size + 27)] G I L postq31 ∧ ∀ (roq31 : Option Value) (Gq31 : amG) (Iq31 : amI) (Lq31 : amL), postq31 roq31 Gq31 Iq31 Lq31 → roq31 = none ∧ Lay Gq31 ∧ ∃ (dq32 mcq32 msq32 : Nat) (postq32 : amP), Nat.ble (dq32 + 1) 5 = true ∧ (ce + mcq31 + mcq32 ≤ mc ∧ sl + msq31 + msq32 ≤ ms) ∧ Mx (zL z) (zD z) (zB z) yX11_adoptDraft cX11_adoptDraft 1 (some .int) dq32 mcq32 msq32 [.ref ((zB z).size + 0)] Gq31 Iq31 Lq31 postq32 ∧ ∀ (roq32 : Option Value) (Gq32 : amG) (Iq32 : amI) (Lq32 : amL), postq32 roq32 Gq32 Iq32 Lq32 → ∃ (rq32 : Int32), roq32 = some (.int rq32) ∧ Lay Gq32 ∧ post (some (.int rq32)) Gq32 Iq32 Lq32)) ∧ ((¬ ((I 3 0) + (I 27 0)) ≤ (16 : Int32)) → post (some (.int (-2))) G I L)) ∧ ((v1 = (5 : Int32)) → ((((I 3 0) * (I 27 0)) ≤ (16 : Int32)) → ((¬ v1 = (5 : Int32)) → ((¬ v1 = (4 : Int32)) → ∃ (dq36 mcq36 msq36 : Nat) (postq36 : amP), Nat.ble (dq36 + 1) 5 = true ∧ (ce + mcq36 ≤ mc ∧ sl + msq36 ≤ ms) ∧ Mx (zL z) (zD z) (zB z) yX4_becomeBoth cX4_becomeBoth 6 none dq36 mcq36 msq36 [.ref ((zB z).size + 10), .ref ((zB z).size + 3), .ref ((zB z).size + 27), .int 0] G I L postq36 ∧ ∀ (roq36 : Option Value) (Gq36 : amG) (Iq36 : amI) (Lq36 : amL), postq36 roq36 Gq36 Iq36 Lq36 → roq36 = none ∧ Lay Gq36 ∧ ∃ (dq37 mcq37 msq37 : Nat) (postq37 : amP), Nat.ble (dq37 + 1) 5 = true ∧ (ce + mcq36 + mcq37 ≤ mc ∧ sl + msq36 + msq37 ≤ ms) ∧ Mx (zL z) (zD z) (zB z) yX11_adoptDraft cX11_adoptDraft 1 (some .int) dq37 mcq37 msq37 [.ref ((zB z).size + 0)] Gq36 Iq36 Lq36 postq37 ∧ ∀ (roq37 : Option Value) (Gq37 : amG) (Iq37 : amI) (Lq37 : amL), postq37 roq37 Gq37 Iq37 Lq37 → ∃ (rq37 : Int32), roq37 = some (.int rq37) ∧ Lay Gq37 ∧ post (some (.int rq37)) Gq37 Iq37 Lq37) ∧ ((v1 = (4 : Int32)) → ∃ (dq38 mcq38 msq38 : Nat) (postq38 : amP), Nat.ble (dq38 + 1) 5 = true ∧ (ce + mcq38 ≤ mc ∧ sl + msq38 ≤ ms) ∧ Mx (zL z) (zD z) (zB z) yX4_becomeBoth cX4_becomeBoth 6 none dq38 mcq38 msq38 [.ref ((zB z).size + 10), .ref ((zB z).size + 3), .ref ((zB z).size + 27), .int 1] G I L postq38 ∧ ∀ (roq38 : Option Value) (Gq38 : amG) (Iq38 : amI) (Lq38 : amL), postq38 roq38 Gq38 Iq38 Lq38 → roq38 = none ∧ Lay Gq38 ∧ ∃ (dq39 mcq39 msq39 : Nat) (postq39 : amP), Nat.ble (dq39 + 1) 5 = true ∧ (ce + mcq38 + mcq39 ≤ mc ∧ sl + msq38 + msq39 ≤ ms) ∧ Mx (zL z) (zD z) (zB z) yX11_adoptDraft cX11_adoptDraft 1 (some .int) dq39 mcq39 msq39 [.ref ((zB z).size + 0)] Gq38 Iq38 Lq38 postq39 ∧ ∀ (roq39 : Option Value) (Gq39 : amG) (Iq39 : amI) (Lq39 : amL), postq39 roq39 Gq39 Iq39 Lq39 → ∃ (rq39 : Int32), roq39 = some (.int rq39) ∧ Lay Gq39 ∧ post (some (.int rq39)) Gq39 Iq39 Lq39)) ∧ ((v1 = (5 : Int32)) → ∃ (dq40 mcq40 msq40 : Nat) (postq40 : amP), Nat.ble (dq40 + 1) 5 = true ∧ (ce + mcq40 ≤ mc ∧ sl + msq40 ≤ ms) ∧ Mx (zL z) (zD z) (zB z) yX4_becomePairs cX4_becomePairs 6 none dq40 mcq40 msq40 [.ref ((zB z).size + 10), .ref ((zB z).size + 3), .ref ((zB z).size + 27)] G I L postq40 ∧ ∀ (roq40 : Option Value) (Gq40 : amG) (Iq40 : amI) (Lq40 : amL), postq40 roq40 Gq40 Iq40 Lq40 → roq40 = none ∧ Lay Gq40 ∧ ∃ (dq41 mcq41 msq41 : Nat) (postq41 : amP), Nat.ble (dq41 + 1) 5 = true ∧ (ce + mcq40 + mcq41 ≤ mc ∧ sl + msq40 + msq41 ≤ ms) ∧ Mx (zL z) (zD z) (zB z) yX11_adoptDraft cX11_adoptDraft 1 (some .int) dq41 mcq41 msq41 [.ref ((zB z).size + 0)] Gq40 Iq40 Lq40 postq41 ∧ ∀ (roq41 : Option Value) (Gq41 : amG) (Iq41 : amI) (Lq41 : amL), postq41 roq41 Gq41 Iq41 Lq41 → ∃ (rq41 : Int32), roq41 = some (.int rq41) ∧ Lay Gq41 ∧ post (some (.int rq41)) Gq41 Iq41 Lq41)) ∧ ((¬ ((I 3 0) * (I 27 0)) ≤ (16 : Int32)) → post (some (.int (-2))) G I L)))) ∧ ((kpB I v2 = false) → post (some (.int (-1))) G I L)) : Wx z ce sl 0 [(0, .ref ((zB z).size + 0)), (1, .int v1), (2, .int v2)] [] G I L := by
  have hz1 := hz.1
  refine am_aload_n hz1 dX11_formWithKept_0 0 rfl rfl ?_
  refine am_iload_n hz1 dX11_formWithKept_1 2 rfl rfl ?_
  refine am_cVf hz cv_X11_166 [.int v2] [] (c_X11_isKept hG v2 ) (ln_0 hG) (lk_0 hG) rfl rfl rfl hce (Nat.le_of_ble_eq_true rfl) dX11_formWithKept_2 ?_
  refine am_ifb_ne (tgt := 10) hz1 dX11_formWithKept_5 (by decide) (fun c1 => ?_) (fun c1 => ?_)
  · replace h := h.1 c1
    refine am_aload_n hz1 dX11_formWithKept_10 0 rfl rfl ?_
    refine am_getR hz1 fl_X11_37 (ln_0 hG) (lk_0 hG) (lr_0_4 hG) rfl dX11_formWithKept_11 ?_
    refine am_iload_n hz1 dX11_formWithKept_14 2 rfl rfl ?_
    obtain ⟨g2, h⟩ := h
    rcases in2 g2 with c3 | c3
    · replace h := h.1 c3
      refine am_aald hz1 (t := 3) (kd := 53) rfl (by decide) (ln_19 hG) (lk_19 hG) (by rw [(ll_19 hG)]; exact g2) (by rw [c3]; exact lr_19_0 hG) dX11_formWithKept_15 ?_
      refine am_astore_n (lv' := [(3, .ref ((zB z).size + 20)), (0, .ref ((zB z).size + 0)), (1, .int v1), (2, .int v2)]) hz1 dX11_formWithKept_16 rfl rfl rfl ?_
      refine am_iload_n hz1 dX11_formWithKept_17 2 rfl rfl ?_
      refine am_iconst (v := 5) hz1 dX11_formWithKept_18 (by decide) ?_
      refine am_icmp_ne (tgt := 37) hz1 dX11_formWithKept_19 (by decide) (fun c4 => ?_) (fun c4 => ?_)
      · replace h := h.1 c4
        refine am_aload_n hz1 dX11_formWithKept_37 1 rfl rfl ?_
        refine am_getR hz1 fl_X11_21 (ln_0 hG) (lk_0 hG) (lr_0_2 hG) rfl dX11_formWithKept_38 ?_
        refine am_getI hz1 fl_X11_129 (ln_3 hG) (lk_3 hG) rfl dX11_formWithKept_41 ?_
        refine am_aload_n hz1 dX11_formWithKept_44 0 rfl rfl ?_
        refine am_getI hz1 fl_X11_129 (ln_20 hG) (lk_20 hG) rfl dX11_formWithKept_45 ?_
        refine am_iadd hz1 dX11_formWithKept_48 ?_
        refine am_istore (lv' := [(4, .int ((I 3 0) + (I 20 0))), (3, .ref ((zB z).size + 20)), (0, .ref ((zB z).size + 0)), (1, .int v1), (2, .int v2)]) hz1 dX11_formWithKept_49 rfl rfl ?_
        refine am_iload hz1 dX11_formWithKept_51 0 rfl ?_
        refine am_bipush (v := 16) hz1 dX11_formWithKept_53 (by decide) ?_
        refine am_icmp_le (tgt := 61) hz1 dX11_formWithKept_55 (by decide) (fun c5 => ?_) (fun c5 => ?_)
        · replace h := h.1 c5
          refine am_iload_n hz1 dX11_formWithKept_61 3 rfl rfl ?_
          refine am_iconst (v := 5) hz1 dX11_formWithKept_62 (by decide) ?_
          refine am_icmp_ne (tgt := 81) hz1 dX11_formWithKept_63 (by decide) (fun c6 => ?_) (fun c6 => ?_)
          · replace h := h.1 c6
            refine am_aload_n hz1 dX11_formWithKept_81 2 rfl rfl ?_
            refine am_getR hz1 fl_X11_25 (ln_0 hG) (lk_0 hG) (lr_0_3 hG) rfl dX11_formWithKept_82 ?_
            refine am_aload_n hz1 dX11_formWithKept_85 2 rfl rfl ?_
            refine am_getR hz1 fl_X11_21 (ln_0 hG) (lk_0 hG) (lr_0_2 hG) rfl dX11_formWithKept_86 ?_
            refine am_aload_n hz1 dX11_formWithKept_89 1 rfl rfl ?_
            refine am_iload_n hz1 dX11_formWithKept_90 3 rfl rfl ?_
            refine am_iconst (v := 4) hz1 dX11_formWithKept_91 (by decide) ?_
            refine am_icmp_ne (tgt := 99) hz1 dX11_formWithKept_92 (by decide) (fun c7 => ?_) (fun c7 => ?_)
            · replace h := h.1 c7
              refine am_iconst (v := 0) hz1 dX11_formWithKept_99 (by decide) ?_
              obtain ⟨dq8, mcq8, msq8, postq8, hdq8, hcq8, hMq8, h⟩ := h
              refine am_callV hz1 cv_X11_172 [.ref ((zB z).size + 3), .ref ((zB z).size + 20), .int 0] [] hMq8 (ln_10 hG) (lk_10 hG) rfl rfl (hz.fr hdq8) (hz.lo hdq8) (by rw [hz.2.1]; exact hcq8) (Nat.le_of_ble_eq_true rfl) dX11_formWithKept_100 (fun roq8 Gq8 Iq8 Lq8 hpq8 => ?_)
              obtain ⟨rfl, hGq8, h⟩ := h roq8 Gq8 Iq8 Lq8 hpq8
              refine am_aload_n hz1 dX11_formWithKept_103 2 rfl rfl ?_
              obtain ⟨dq9, mcq9, msq9, postq9, hdq9, hcq9, hMq9, h⟩ := h
              refine am_callV hz1 cv_X11_115 [] [] hMq9 (ln_0 hGq8) (lk_0 hGq8) rfl rfl (hz.fr hdq9) (hz.lo hdq9) (by rw [hz.2.1]; exact hcq9) (Nat.le_of_ble_eq_true rfl) dX11_formWithKept_104 (fun roq9 Gq9 Iq9 Lq9 hpq9 => ?_)
              obtain ⟨rq9, rfl, hGq9, h⟩ := h roq9 Gq9 Iq9 Lq9 hpq9
              exact am_widen hcq9.1 hcq9.2 (am_ireturn hz dX11_formWithKept_107 h)
            · replace h := h.2 c7
              refine am_iconst (v := 1) hz1 dX11_formWithKept_95 (by decide) ?_
              refine am_goto (tgt := 100) hz1 dX11_formWithKept_96 (by decide) ?_
              obtain ⟨dq10, mcq10, msq10, postq10, hdq10, hcq10, hMq10, h⟩ := h
              refine am_callV hz1 cv_X11_172 [.ref ((zB z).size + 3), .ref ((zB z).size + 20), .int 1] [] hMq10 (ln_10 hG) (lk_10 hG) rfl rfl (hz.fr hdq10) (hz.lo hdq10) (by rw [hz.2.1]; exact hcq10) (Nat.le_of_ble_eq_true rfl) dX11_formWithKept_100 (fun roq10 Gq10 Iq10 Lq10 hpq10 => ?_)
              obtain ⟨rfl, hGq10, h⟩ := h roq10 Gq10 Iq10 Lq10 hpq10
              refine am_aload_n hz1 dX11_formWithKept_103 2 rfl rfl ?_
              obtain ⟨dq11, mcq11, msq11, postq11, hdq11, hcq11, hMq11, h⟩ := h
              refine am_callV hz1 cv_X11_115 [] [] hMq11 (ln_0 hGq10) (lk_0 hGq10) rfl rfl (hz.fr hdq11) (hz.lo hdq11) (by rw [hz.2.1]; exact hcq11) (Nat.le_of_ble_eq_true rfl) dX11_formWithKept_104 (fun roq11 Gq11 Iq11 Lq11 hpq11 => ?_)
              obtain ⟨rq11, rfl, hGq11, h⟩ := h roq11 Gq11 Iq11 Lq11 hpq11
              exact am_widen hcq11.1 hcq11.2 (am_ireturn hz dX11_formWithKept_107 h)
          · replace h := h.2 c6
            refine am_aload_n hz1 dX11_formWithKept_66 2 rfl rfl ?_
            refine am_getR hz1 fl_X11_25 (ln_0 hG) (lk_0 hG) (lr_0_3 hG) rfl dX11_formWithKept_67 ?_
            refine am_aload_n hz1 dX11_formWithKept_70 2 rfl rfl ?_
            refine am_getR hz1 fl_X11_21 (ln_0 hG) (lk_0 hG) (lr_0_2 hG) rfl dX11_formWithKept_71 ?_
            refine am_aload_n hz1 dX11_formWithKept_74 1 rfl rfl ?_
            obtain ⟨dq12, mcq12, msq12, postq12, hdq12, hcq12, hMq12, h⟩ := h
            refine am_callV hz1 cv_X11_169 [.ref ((zB z).size + 3), .ref ((zB z).size + 20)] [] hMq12 (ln_10 hG) (lk_10 hG) rfl rfl (hz.fr hdq12) (hz.lo hdq12) (by rw [hz.2.1]; exact hcq12) (Nat.le_of_ble_eq_true rfl) dX11_formWithKept_75 (fun roq12 Gq12 Iq12 Lq12 hpq12 => ?_)
            obtain ⟨rfl, hGq12, h⟩ := h roq12 Gq12 Iq12 Lq12 hpq12
            refine am_goto (tgt := 103) hz1 dX11_formWithKept_78 (by decide) ?_
            refine am_aload_n hz1 dX11_formWithKept_103 2 rfl rfl ?_
            obtain ⟨dq13, mcq13, msq13, postq13, hdq13, hcq13, hMq13, h⟩ := h
            refine am_callV hz1 cv_X11_115 [] [] hMq13 (ln_0 hGq12) (lk_0 hGq12) rfl rfl (hz.fr hdq13) (hz.lo hdq13) (by rw [hz.2.1]; exact hcq13) (Nat.le_of_ble_eq_true rfl) dX11_formWithKept_104 (fun roq13 Gq13 Iq13 Lq13 hpq13 => ?_)
            obtain ⟨rq13, rfl, hGq13, h⟩ := h roq13 Gq13 Iq13 Lq13 hpq13
            exact am_widen hcq13.1 hcq13.2 (am_ireturn hz dX11_formWithKept_107 h)
        · replace h := h.2 c5
          refine am_bipush (v := (-2)) hz1 dX11_formWithKept_58 (by decide) ?_
          exact am_widen hce.1 hce.2 (am_ireturn hz dX11_formWithKept_60 h)
      · replace h := h.2 c4
        refine am_aload_n hz1 dX11_formWithKept_22 1 rfl rfl ?_
        refine am_getR hz1 fl_X11_21 (ln_0 hG) (lk_0 hG) (lr_0_2 hG) rfl dX11_formWithKept_23 ?_
        refine am_getI hz1 fl_X11_129 (ln_3 hG) (lk_3 hG) rfl dX11_formWithKept_26 ?_
        refine am_aload_n hz1 dX11_formWithKept_29 0 rfl rfl ?_
        refine am_getI hz1 fl_X11_129 (ln_20 hG) (lk_20 hG) rfl dX11_formWithKept_30 ?_
        refine am_imul hz1 dX11_formWithKept_33 ?_
        refine am_goto (tgt := 49) hz1 dX11_formWithKept_34 (by decide) ?_
        refine am_istore (lv' := [(4, .int ((I 3 0) * (I 20 0))), (3, .ref ((zB z).size + 20)), (0, .ref ((zB z).size + 0)), (1, .int v1), (2, .int v2)]) hz1 dX11_formWithKept_49 rfl rfl ?_
        refine am_iload hz1 dX11_formWithKept_51 0 rfl ?_
        refine am_bipush (v := 16) hz1 dX11_formWithKept_53 (by decide) ?_
        refine am_icmp_le (tgt := 61) hz1 dX11_formWithKept_55 (by decide) (fun c14 => ?_) (fun c14 => ?_)
        · replace h := h.1 c14
          refine am_iload_n hz1 dX11_formWithKept_61 3 rfl rfl ?_
          refine am_iconst (v := 5) hz1 dX11_formWithKept_62 (by decide) ?_
          refine am_icmp_ne (tgt := 81) hz1 dX11_formWithKept_63 (by decide) (fun c15 => ?_) (fun c15 => ?_)
          · replace h := h.1 c15
            refine am_aload_n hz1 dX11_formWithKept_81 2 rfl rfl ?_
            refine am_getR hz1 fl_X11_25 (ln_0 hG) (lk_0 hG) (lr_0_3 hG) rfl dX11_formWithKept_82 ?_
            refine am_aload_n hz1 dX11_formWithKept_85 2 rfl rfl ?_
            refine am_getR hz1 fl_X11_21 (ln_0 hG) (lk_0 hG) (lr_0_2 hG) rfl dX11_formWithKept_86 ?_
            refine am_aload_n hz1 dX11_formWithKept_89 1 rfl rfl ?_
            refine am_iload_n hz1 dX11_formWithKept_90 3 rfl rfl ?_
            refine am_iconst (v := 4) hz1 dX11_formWithKept_91 (by decide) ?_
            refine am_icmp_ne (tgt := 99) hz1 dX11_formWithKept_92 (by decide) (fun c16 => ?_) (fun c16 => ?_)
            · replace h := h.1 c16
              refine am_iconst (v := 0) hz1 dX11_formWithKept_99 (by decide) ?_
              obtain ⟨dq17, mcq17, msq17, postq17, hdq17, hcq17, hMq17, h⟩ := h
              refine am_callV hz1 cv_X11_172 [.ref ((zB z).size + 3), .ref ((zB z).size + 20), .int 0] [] hMq17 (ln_10 hG) (lk_10 hG) rfl rfl (hz.fr hdq17) (hz.lo hdq17) (by rw [hz.2.1]; exact hcq17) (Nat.le_of_ble_eq_true rfl) dX11_formWithKept_100 (fun roq17 Gq17 Iq17 Lq17 hpq17 => ?_)
              obtain ⟨rfl, hGq17, h⟩ := h roq17 Gq17 Iq17 Lq17 hpq17
              refine am_aload_n hz1 dX11_formWithKept_103 2 rfl rfl ?_
              obtain ⟨dq18, mcq18, msq18, postq18, hdq18, hcq18, hMq18, h⟩ := h
              refine am_callV hz1 cv_X11_115 [] [] hMq18 (ln_0 hGq17) (lk_0 hGq17) rfl rfl (hz.fr hdq18) (hz.lo hdq18) (by rw [hz.2.1]; exact hcq18) (Nat.le_of_ble_eq_true rfl) dX11_formWithKept_104 (fun roq18 Gq18 Iq18 Lq18 hpq18 => ?_)
              obtain ⟨rq18, rfl, hGq18, h⟩ := h roq18 Gq18 Iq18 Lq18 hpq18
              exact am_widen hcq18.1 hcq18.2 (am_ireturn hz dX11_formWithKept_107 h)
            · replace h := h.2 c16
              refine am_iconst (v := 1) hz1 dX11_formWithKept_95 (by decide) ?_
              refine am_goto (tgt := 100) hz1 dX11_formWithKept_96 (by decide) ?_
              obtain ⟨dq19, mcq19, msq19, postq19, hdq19, hcq19, hMq19, h⟩ := h
              refine am_callV hz1 cv_X11_172 [.ref ((zB z).size + 3), .ref ((zB z).size + 20), .int 1] [] hMq19 (ln_10 hG) (lk_10 hG) rfl rfl (hz.fr hdq19) (hz.lo hdq19) (by rw [hz.2.1]; exact hcq19) (Nat.le_of_ble_eq_true rfl) dX11_formWithKept_100 (fun roq19 Gq19 Iq19 Lq19 hpq19 => ?_)
              obtain ⟨rfl, hGq19, h⟩ := h roq19 Gq19 Iq19 Lq19 hpq19
              refine am_aload_n hz1 dX11_formWithKept_103 2 rfl rfl ?_
              obtain ⟨dq20, mcq20, msq20, postq20, hdq20, hcq20, hMq20, h⟩ := h
              refine am_callV hz1 cv_X11_115 [] [] hMq20 (ln_0 hGq19) (lk_0 hGq19) rfl rfl (hz.fr hdq20) (hz.lo hdq20) (by rw [hz.2.1]; exact hcq20) (Nat.le_of_ble_eq_true rfl) dX11_formWithKept_104 (fun roq20 Gq20 Iq20 Lq20 hpq20 => ?_)
              obtain ⟨rq20, rfl, hGq20, h⟩ := h roq20 Gq20 Iq20 Lq20 hpq20
              exact am_widen hcq20.1 hcq20.2 (am_ireturn hz dX11_formWithKept_107 h)
          · replace h := h.2 c15
            refine am_aload_n hz1 dX11_formWithKept_66 2 rfl rfl ?_
            refine am_getR hz1 fl_X11_25 (ln_0 hG) (lk_0 hG) (lr_0_3 hG) rfl dX11_formWithKept_67 ?_
            refine am_aload_n hz1 dX11_formWithKept_70 2 rfl rfl ?_
            refine am_getR hz1 fl_X11_21 (ln_0 hG) (lk_0 hG) (lr_0_2 hG) rfl dX11_formWithKept_71 ?_
            refine am_aload_n hz1 dX11_formWithKept_74 1 rfl rfl ?_
            obtain ⟨dq21, mcq21, msq21, postq21, hdq21, hcq21, hMq21, h⟩ := h
            refine am_callV hz1 cv_X11_169 [.ref ((zB z).size + 3), .ref ((zB z).size + 20)] [] hMq21 (ln_10 hG) (lk_10 hG) rfl rfl (hz.fr hdq21) (hz.lo hdq21) (by rw [hz.2.1]; exact hcq21) (Nat.le_of_ble_eq_true rfl) dX11_formWithKept_75 (fun roq21 Gq21 Iq21 Lq21 hpq21 => ?_)
            obtain ⟨rfl, hGq21, h⟩ := h roq21 Gq21 Iq21 Lq21 hpq21
            refine am_goto (tgt := 103) hz1 dX11_formWithKept_78 (by decide) ?_
            refine am_aload_n hz1 dX11_formWithKept_103 2 rfl rfl ?_
            obtain ⟨dq22, mcq22, msq22, postq22, hdq22, hcq22, hMq22, h⟩ := h
            refine am_callV hz1 cv_X11_115 [] [] hMq22 (ln_0 hGq21) (lk_0 hGq21) rfl rfl (hz.fr hdq22) (hz.lo hdq22) (by rw [hz.2.1]; exact hcq22) (Nat.le_of_ble_eq_true rfl) dX11_formWithKept_104 (fun roq22 Gq22 Iq22 Lq22 hpq22 => ?_)
            obtain ⟨rq22, rfl, hGq22, h⟩ := h roq22 Gq22 Iq22 Lq22 hpq22
            exact am_widen hcq22.1 hcq22.2 (am_ireturn hz dX11_formWithKept_107 h)
        · replace h := h.2 c14
          refine am_bipush (v := (-2)) hz1 dX11_formWithKept_58 (by decide) ?_
          exact am_widen hce.1 hce.2 (am_ireturn hz dX11_formWithKept_60 h)
    · replace h := h.2 c3
      refine am_aald hz1 (t := 3) (kd := 53) rfl (by decide) (ln_19 hG) (lk_19 hG) (by rw [(ll_19 hG)]; exact g2) (by rw [c3]; exact lr_19_1 hG) dX11_formWithKept_15 ?_
      refine am_astore_n (lv' := [(3, .ref ((zB z).size + 27)), (0, .ref ((zB z).size + 0)), (1, .int v1), (2, .int v2)]) hz1 dX11_formWithKept_16 rfl rfl rfl ?_
      refine am_iload_n hz1 dX11_formWithKept_17 2 rfl rfl ?_
      refine am_iconst (v := 5) hz1 dX11_formWithKept_18 (by decide) ?_
      refine am_icmp_ne (tgt := 37) hz1 dX11_formWithKept_19 (by decide) (fun c23 => ?_) (fun c23 => ?_)
      · replace h := h.1 c23
        refine am_aload_n hz1 dX11_formWithKept_37 1 rfl rfl ?_
        refine am_getR hz1 fl_X11_21 (ln_0 hG) (lk_0 hG) (lr_0_2 hG) rfl dX11_formWithKept_38 ?_
        refine am_getI hz1 fl_X11_129 (ln_3 hG) (lk_3 hG) rfl dX11_formWithKept_41 ?_
        refine am_aload_n hz1 dX11_formWithKept_44 0 rfl rfl ?_
        refine am_getI hz1 fl_X11_129 (ln_27 hG) (lk_27 hG) rfl dX11_formWithKept_45 ?_
        refine am_iadd hz1 dX11_formWithKept_48 ?_
        refine am_istore (lv' := [(4, .int ((I 3 0) + (I 27 0))), (3, .ref ((zB z).size + 27)), (0, .ref ((zB z).size + 0)), (1, .int v1), (2, .int v2)]) hz1 dX11_formWithKept_49 rfl rfl ?_
        refine am_iload hz1 dX11_formWithKept_51 0 rfl ?_
        refine am_bipush (v := 16) hz1 dX11_formWithKept_53 (by decide) ?_
        refine am_icmp_le (tgt := 61) hz1 dX11_formWithKept_55 (by decide) (fun c24 => ?_) (fun c24 => ?_)
        · replace h := h.1 c24
          refine am_iload_n hz1 dX11_formWithKept_61 3 rfl rfl ?_
          refine am_iconst (v := 5) hz1 dX11_formWithKept_62 (by decide) ?_
          refine am_icmp_ne (tgt := 81) hz1 dX11_formWithKept_63 (by decide) (fun c25 => ?_) (fun c25 => ?_)
          · replace h := h.1 c25
            refine am_aload_n hz1 dX11_formWithKept_81 2 rfl rfl ?_
            refine am_getR hz1 fl_X11_25 (ln_0 hG) (lk_0 hG) (lr_0_3 hG) rfl dX11_formWithKept_82 ?_
            refine am_aload_n hz1 dX11_formWithKept_85 2 rfl rfl ?_
            refine am_getR hz1 fl_X11_21 (ln_0 hG) (lk_0 hG) (lr_0_2 hG) rfl dX11_formWithKept_86 ?_
            refine am_aload_n hz1 dX11_formWithKept_89 1 rfl rfl ?_
            refine am_iload_n hz1 dX11_formWithKept_90 3 rfl rfl ?_
            refine am_iconst (v := 4) hz1 dX11_formWithKept_91 (by decide) ?_
            refine am_icmp_ne (tgt := 99) hz1 dX11_formWithKept_92 (by decide) (fun c26 => ?_) (fun c26 => ?_)
            · replace h := h.1 c26
              refine am_iconst (v := 0) hz1 dX11_formWithKept_99 (by decide) ?_
              obtain ⟨dq27, mcq27, msq27, postq27, hdq27, hcq27, hMq27, h⟩ := h
              refine am_callV hz1 cv_X11_172 [.ref ((zB z).size + 3), .ref ((zB z).size + 27), .int 0] [] hMq27 (ln_10 hG) (lk_10 hG) rfl rfl (hz.fr hdq27) (hz.lo hdq27) (by rw [hz.2.1]; exact hcq27) (Nat.le_of_ble_eq_true rfl) dX11_formWithKept_100 (fun roq27 Gq27 Iq27 Lq27 hpq27 => ?_)
              obtain ⟨rfl, hGq27, h⟩ := h roq27 Gq27 Iq27 Lq27 hpq27
              refine am_aload_n hz1 dX11_formWithKept_103 2 rfl rfl ?_
              obtain ⟨dq28, mcq28, msq28, postq28, hdq28, hcq28, hMq28, h⟩ := h
              refine am_callV hz1 cv_X11_115 [] [] hMq28 (ln_0 hGq27) (lk_0 hGq27) rfl rfl (hz.fr hdq28) (hz.lo hdq28) (by rw [hz.2.1]; exact hcq28) (Nat.le_of_ble_eq_true rfl) dX11_formWithKept_104 (fun roq28 Gq28 Iq28 Lq28 hpq28 => ?_)
              obtain ⟨rq28, rfl, hGq28, h⟩ := h roq28 Gq28 Iq28 Lq28 hpq28
              exact am_widen hcq28.1 hcq28.2 (am_ireturn hz dX11_formWithKept_107 h)
            · replace h := h.2 c26
              refine am_iconst (v := 1) hz1 dX11_formWithKept_95 (by decide) ?_
              refine am_goto (tgt := 100) hz1 dX11_formWithKept_96 (by decide) ?_
              obtain ⟨dq29, mcq29, msq29, postq29, hdq29, hcq29, hMq29, h⟩ := h
              refine am_callV hz1 cv_X11_172 [.ref ((zB z).size + 3), .ref ((zB z).size + 27), .int 1] [] hMq29 (ln_10 hG) (lk_10 hG) rfl rfl (hz.fr hdq29) (hz.lo hdq29) (by rw [hz.2.1]; exact hcq29) (Nat.le_of_ble_eq_true rfl) dX11_formWithKept_100 (fun roq29 Gq29 Iq29 Lq29 hpq29 => ?_)
              obtain ⟨rfl, hGq29, h⟩ := h roq29 Gq29 Iq29 Lq29 hpq29
              refine am_aload_n hz1 dX11_formWithKept_103 2 rfl rfl ?_
              obtain ⟨dq30, mcq30, msq30, postq30, hdq30, hcq30, hMq30, h⟩ := h
              refine am_callV hz1 cv_X11_115 [] [] hMq30 (ln_0 hGq29) (lk_0 hGq29) rfl rfl (hz.fr hdq30) (hz.lo hdq30) (by rw [hz.2.1]; exact hcq30) (Nat.le_of_ble_eq_true rfl) dX11_formWithKept_104 (fun roq30 Gq30 Iq30 Lq30 hpq30 => ?_)
              obtain ⟨rq30, rfl, hGq30, h⟩ := h roq30 Gq30 Iq30 Lq30 hpq30
              exact am_widen hcq30.1 hcq30.2 (am_ireturn hz dX11_formWithKept_107 h)
          · replace h := h.2 c25
            refine am_aload_n hz1 dX11_formWithKept_66 2 rfl rfl ?_
            refine am_getR hz1 fl_X11_25 (ln_0 hG) (lk_0 hG) (lr_0_3 hG) rfl dX11_formWithKept_67 ?_
            refine am_aload_n hz1 dX11_formWithKept_70 2 rfl rfl ?_
            refine am_getR hz1 fl_X11_21 (ln_0 hG) (lk_0 hG) (lr_0_2 hG) rfl dX11_formWithKept_71 ?_
            refine am_aload_n hz1 dX11_formWithKept_74 1 rfl rfl ?_
            obtain ⟨dq31, mcq31, msq31, postq31, hdq31, hcq31, hMq31, h⟩ := h
            refine am_callV hz1 cv_X11_169 [.ref ((zB z).size + 3), .ref ((zB z).size + 27)] [] hMq31 (ln_10 hG) (lk_10 hG) rfl rfl (hz.fr hdq31) (hz.lo hdq31) (by rw [hz.2.1]; exact hcq31) (Nat.le_of_ble_eq_true rfl) dX11_formWithKept_75 (fun roq31 Gq31 Iq31 Lq31 hpq31 => ?_)
            obtain ⟨rfl, hGq31, h⟩ := h roq31 Gq31 Iq31 Lq31 hpq31
            refine am_goto (tgt := 103) hz1 dX11_formWithKept_78 (by decide) ?_
            refine am_aload_n hz1 dX11_formWithKept_103 2 rfl rfl ?_
            obtain ⟨dq32, mcq32, msq32, postq32, hdq32, hcq32, hMq32, h⟩ := h
            refine am_callV hz1 cv_X11_115 [] [] hMq32 (ln_0 hGq31) (lk_0 hGq31) rfl rfl (hz.fr hdq32) (hz.lo hdq32) (by rw [hz.2.1]; exact hcq32) (Nat.le_of_ble_eq_true rfl) dX11_formWithKept_104 (fun roq32 Gq32 Iq32 Lq32 hpq32 => ?_)
            obtain ⟨rq32, rfl, hGq32, h⟩ := h roq32 Gq32 Iq32 Lq32 hpq32
            exact am_widen hcq32.1 hcq32.2 (am_ireturn hz dX11_formWithKept_107 h)
        · replace h := h.2 c24
          refine am_bipush (v := (-2)) hz1 dX11_formWithKept_58 (by decide) ?_
          exact am_widen hce.1 hce.2 (am_ireturn hz dX11_formWithKept_60 h)
      · replace h := h.2 c23
        refine am_aload_n hz1 dX11_formWithKept_22 1 rfl rfl ?_
        refine am_getR hz1 fl_X11_21 (ln_0 hG) (lk_0 hG) (lr_0_2 hG) rfl dX11_formWithKept_23 ?_
        refine am_getI hz1 fl_X11_129 (ln_3 hG) (lk_3 hG) rfl dX11_formWithKept_26 ?_
        refine am_aload_n hz1 dX11_formWithKept_29 0 rfl rfl ?_
        refine am_getI hz1 fl_X11_129 (ln_27 hG) (lk_27 hG) rfl dX11_formWithKept_30 ?_
        refine am_imul hz1 dX11_formWithKept_33 ?_
        refine am_goto (tgt := 49) hz1 dX11_formWithKept_34 (by decide) ?_
        refine am_istore (lv' := [(4, .int ((I 3 0) * (I 27 0))), (3, .ref ((zB z).size + 27)), (0, .ref ((zB z).size + 0)), (1, .int v1), (2, .int v2)]) hz1 dX11_formWithKept_49 rfl rfl ?_
        refine am_iload hz1 dX11_formWithKept_51 0 rfl ?_
        refine am_bipush (v := 16) hz1 dX11_formWithKept_53 (by decide) ?_
        refine am_icmp_le (tgt := 61) hz1 dX11_formWithKept_55 (by decide) (fun c33 => ?_) (fun c33 => ?_)
        · replace h := h.1 c33
          refine am_iload_n hz1 dX11_formWithKept_61 3 rfl rfl ?_
          refine am_iconst (v := 5) hz1 dX11_formWithKept_62 (by decide) ?_
          refine am_icmp_ne (tgt := 81) hz1 dX11_formWithKept_63 (by decide) (fun c34 => ?_) (fun c34 => ?_)
          · replace h := h.1 c34
            refine am_aload_n hz1 dX11_formWithKept_81 2 rfl rfl ?_
            refine am_getR hz1 fl_X11_25 (ln_0 hG) (lk_0 hG) (lr_0_3 hG) rfl dX11_formWithKept_82 ?_
            refine am_aload_n hz1 dX11_formWithKept_85 2 rfl rfl ?_
            refine am_getR hz1 fl_X11_21 (ln_0 hG) (lk_0 hG) (lr_0_2 hG) rfl dX11_formWithKept_86 ?_
            refine am_aload_n hz1 dX11_formWithKept_89 1 rfl rfl ?_
            refine am_iload_n hz1 dX11_formWithKept_90 3 rfl rfl ?_
            refine am_iconst (v := 4) hz1 dX11_formWithKept_91 (by decide) ?_
            refine am_icmp_ne (tgt := 99) hz1 dX11_formWithKept_92 (by decide) (fun c35 => ?_) (fun c35 => ?_)
            · replace h := h.1 c35
              refine am_iconst (v := 0) hz1 dX11_formWithKept_99 (by decide) ?_
              obtain ⟨dq36, mcq36, msq36, postq36, hdq36, hcq36, hMq36, h⟩ := h
              refine am_callV hz1 cv_X11_172 [.ref ((zB z).size + 3), .ref ((zB z).size + 27), .int 0] [] hMq36 (ln_10 hG) (lk_10 hG) rfl rfl (hz.fr hdq36) (hz.lo hdq36) (by rw [hz.2.1]; exact hcq36) (Nat.le_of_ble_eq_true rfl) dX11_formWithKept_100 (fun roq36 Gq36 Iq36 Lq36 hpq36 => ?_)
              obtain ⟨rfl, hGq36, h⟩ := h roq36 Gq36 Iq36 Lq36 hpq36
              refine am_aload_n hz1 dX11_formWithKept_103 2 rfl rfl ?_
              obtain ⟨dq37, mcq37, msq37, postq37, hdq37, hcq37, hMq37, h⟩ := h
              refine am_callV hz1 cv_X11_115 [] [] hMq37 (ln_0 hGq36) (lk_0 hGq36) rfl rfl (hz.fr hdq37) (hz.lo hdq37) (by rw [hz.2.1]; exact hcq37) (Nat.le_of_ble_eq_true rfl) dX11_formWithKept_104 (fun roq37 Gq37 Iq37 Lq37 hpq37 => ?_)
              obtain ⟨rq37, rfl, hGq37, h⟩ := h roq37 Gq37 Iq37 Lq37 hpq37
              exact am_widen hcq37.1 hcq37.2 (am_ireturn hz dX11_formWithKept_107 h)
            · replace h := h.2 c35
              refine am_iconst (v := 1) hz1 dX11_formWithKept_95 (by decide) ?_
              refine am_goto (tgt := 100) hz1 dX11_formWithKept_96 (by decide) ?_
              obtain ⟨dq38, mcq38, msq38, postq38, hdq38, hcq38, hMq38, h⟩ := h
              refine am_callV hz1 cv_X11_172 [.ref ((zB z).size + 3), .ref ((zB z).size + 27), .int 1] [] hMq38 (ln_10 hG) (lk_10 hG) rfl rfl (hz.fr hdq38) (hz.lo hdq38) (by rw [hz.2.1]; exact hcq38) (Nat.le_of_ble_eq_true rfl) dX11_formWithKept_100 (fun roq38 Gq38 Iq38 Lq38 hpq38 => ?_)
              obtain ⟨rfl, hGq38, h⟩ := h roq38 Gq38 Iq38 Lq38 hpq38
              refine am_aload_n hz1 dX11_formWithKept_103 2 rfl rfl ?_
              obtain ⟨dq39, mcq39, msq39, postq39, hdq39, hcq39, hMq39, h⟩ := h
              refine am_callV hz1 cv_X11_115 [] [] hMq39 (ln_0 hGq38) (lk_0 hGq38) rfl rfl (hz.fr hdq39) (hz.lo hdq39) (by rw [hz.2.1]; exact hcq39) (Nat.le_of_ble_eq_true rfl) dX11_formWithKept_104 (fun roq39 Gq39 Iq39 Lq39 hpq39 => ?_)
              obtain ⟨rq39, rfl, hGq39, h⟩ := h roq39 Gq39 Iq39 Lq39 hpq39
              exact am_widen hcq39.1 hcq39.2 (am_ireturn hz dX11_formWithKept_107 h)
          · replace h := h.2 c34
            refine am_aload_n hz1 dX11_formWithKept_66 2 rfl rfl ?_
            refine am_getR hz1 fl_X11_25 (ln_0 hG) (lk_0 hG) (lr_0_3 hG) rfl dX11_formWithKept_67 ?_
            refine am_aload_n hz1 dX11_formWithKept_70 2 rfl rfl ?_
            refine am_getR hz1 fl_X11_21 (ln_0 hG) (lk_0 hG) (lr_0_2 hG) rfl dX11_formWithKept_71 ?_
            refine am_aload_n hz1 dX11_formWithKept_74 1 rfl rfl ?_
            obtain ⟨dq40, mcq40, msq40, postq40, hdq40, hcq40, hMq40, h⟩ := h
            refine am_callV hz1 cv_X11_169 [.ref ((zB z).size + 3), .ref ((zB z).size + 27)] [] hMq40 (ln_10 hG) (lk_10 hG) rfl rfl (hz.fr hdq40) (hz.lo hdq40) (by rw [hz.2.1]; exact hcq40) (Nat.le_of_ble_eq_true rfl) dX11_formWithKept_75 (fun roq40 Gq40 Iq40 Lq40 hpq40 => ?_)
            obtain ⟨rfl, hGq40, h⟩ := h roq40 Gq40 Iq40 Lq40 hpq40
            refine am_goto (tgt := 103) hz1 dX11_formWithKept_78 (by decide) ?_
            refine am_aload_n hz1 dX11_formWithKept_103 2 rfl rfl ?_
            obtain ⟨dq41, mcq41, msq41, postq41, hdq41, hcq41, hMq41, h⟩ := h
            refine am_callV hz1 cv_X11_115 [] [] hMq41 (ln_0 hGq40) (lk_0 hGq40) rfl rfl (hz.fr hdq41) (hz.lo hdq41) (by rw [hz.2.1]; exact hcq41) (Nat.le_of_ble_eq_true rfl) dX11_formWithKept_104 (fun roq41 Gq41 Iq41 Lq41 hpq41 => ?_)
            obtain ⟨rq41, rfl, hGq41, h⟩ := h roq41 Gq41 Iq41 Lq41 hpq41
            exact am_widen hcq41.1 hcq41.2 (am_ireturn hz dX11_formWithKept_107 h)
        · replace h := h.2 c33
          refine am_bipush (v := (-2)) hz1 dX11_formWithKept_58 (by decide) ?_
          exact am_widen hce.1 hce.2 (am_ireturn hz dX11_formWithKept_60 h)
  · replace h := h.2 c1
    refine am_iconst (v := (-1)) hz1 dX11_formWithKept_8 (by decide) ?_
    exact am_widen hce.1 hce.2 (am_ireturn hz dX11_formWithKept_9 h)
set_option maxRecDepth 100000 in
set_option maxHeartbeats 4000000 in
theorem c_X11_formWithKept {l : Launch} {D : va_G} {B : Heap} {G : amG} {I : amI} {L : amL}  (hG : Lay G)  (v1 : Int32) (v2 : Int32) {s : St} (hs : CO s G I L) (hw : WF s) (h345 : v1 = 3 ∨ v1 = 4 ∨ v1 = 5) : Mx l D B yX11_formWithKept cX11_formWithKept 5 (some .int) 5 5 1078 [.ref (B.size + 0), .int v1, .int v2] G I L (CA (XK s v1 v2).2 (XK s v1 v2).1 G I L) := by
  refine Mx.of (by decide) rfl rfl (fun z e1 e2 e3 hz => ?_)
  subst e1; subst e2; subst e3
  refine b_X11_formWithKept_0 hz ⟨Nat.zero_le _, Nat.zero_le _⟩ hG ?_
  have hO := hs.2.1.1
  have h16 := hO.2.2.1
  have h1 := hO.2.1
  refine ⟨fun h => ?_, fun h => by rw [kp_no hs h]; exact CA_no hs rfl⟩
  have hk : v2 = nI 0 ∨ v2 = nI 1 := by
    rw [kpB, Bool.and_eq_true] at h
    obtain ⟨j, hj, rfl⟩ := (el_t (n := 2) (by decide)).mp h.1
    rcases (show j = 0 ∨ j = 1 by omega) with e | e <;> subst e
    · exact Or.inl rfl
    · exact Or.inr rfl
  have hin : vp_in v2 2 := by rcases hk with e | e <;> (rw [e]; exact in_nI (by decide) (by decide))
  have sum : ∀ (r : Nat) (q : Shf), (r = 20 ∨ r = 27) → OI I r q.1 q.2 → (I 3 0 + I r 0 ≤ 16 ↔ rN (sC s) + q.1 ≤ 16) ∧ (I 3 0 * I r 0 ≤ 16 ↔ rN (sC s) * q.1 ≤ 16) := fun r q hr hO2 => by
    have hk16 := hO2.2.2.1
    have hm : rN (sC s) * q.1 ≤ 16 * 16 := Nat.mul_le_mul h16 hk16
    rw [hO.1, hO2.1, nI_add, nI_mul, show (16 : Int32) = nI 16 from rfl, nI_leI (by omega) (by decide), nI_leI (by omega) (by decide)]
    exact ⟨Iff.rfl, Iff.rfl⟩
  have XKe : ∀ (q : Shf), XK s v1 v2 = xFormK s v1 q → (¬ v1 = 5 → rN (sC s) + q.1 ≤ 16 → XK s v1 v2 = (nI (rN (sC s) + q.1), adoptS s (rN (sC s) + q.1) (botA (rN (sC s)) q.1 (rA (sC s)) q.2 (decide (v1 = 4))))) ∧ (v1 = 5 → rN (sC s) * q.1 ≤ 16 → XK s v1 v2 = (nI (rN (sC s) * q.1), adoptS s (rN (sC s) * q.1) (prsA (rN (sC s)) q.1 (rA (sC s)) q.2))) ∧ (¬ v1 = 5 → ¬ rN (sC s) + q.1 ≤ 16 → XK s v1 v2 = (-2, s)) ∧ (v1 = 5 → ¬ rN (sC s) * q.1 ≤ 16 → XK s v1 v2 = (-2, s)) := fun q e => by
    rw [e, xFormK]
    exact ⟨fun a b => by rw [if_neg a, if_pos b], fun a b => by rw [if_pos a, if_pos b], fun a b => by rw [if_neg a, if_neg b], fun a b => by rw [if_pos a, if_neg b]⟩
  refine ⟨hin, fun e0 => ?_, fun e1 => ?_⟩
  · have hO2 : OI I 20 (s0 s).1 (s0 s).2 := by
      rcases hs.2.1.2.2.2.2.2.1 with ⟨a, b⟩ | ⟨a, b⟩
      · have hb : bt (I 0 14) 0 = true := by rw [e0, kpB, Bool.and_eq_true] at h; exact h.2
        rw [hb] at b; cases b
      · exact a
    have hx : XK s v1 v2 = xFormK s v1 (s0 s) := by
      rw [show v2 = nI 0 from e0, XK, if_pos ((inR_t (k := 1) (by decide)).mpr ⟨0, by omega, rfl⟩), if_neg (by show ¬ (s0 s).1 = 0; have := hO2.2.1; omega)]; rfl
    obtain ⟨x1, x2, x3, x4⟩ := XKe _ hx
    have hsm := sum 20 (s0 s) (Or.inl rfl) hO2
    rw [hsm.1, hsm.2]
    refine ⟨fun n5 => ⟨fun g => ⟨fun _ => ⟨fun n4 => ?_, fun y4 => ?_⟩, fun y5 => absurd y5 n5⟩, fun g => by rw [x3 n5 g]; exact CA_no hs rfl⟩, fun y5 => ⟨fun g => ⟨fun n5 => absurd y5 n5, fun _ => ?_⟩, fun g => by rw [x4 y5 g]; exact CA_no hs rfl⟩⟩
    · rw [x1 n5 g, decide_eq_false n4]; exact BOTH_C hs hw rfl (Or.inl rfl) hO2 g rfl
    · rw [x1 n5 g, decide_eq_true y4]; exact BOTH_C hs hw rfl (Or.inl rfl) hO2 g rfl
    · rw [x2 y5 g]; exact PAIRS_C hs hw rfl (Or.inl rfl) hO2 g
  · have hO2 : OI I 27 (s1 s).1 (s1 s).2 := by
      rcases hs.2.1.2.2.2.2.2.2.1 with ⟨a, b⟩ | ⟨a, b⟩
      · have hb : bt (I 0 14) 1 = true := by rw [e1, kpB, Bool.and_eq_true] at h; exact h.2
        rw [hb] at b; cases b
      · exact a
    have hx : XK s v1 v2 = xFormK s v1 (s1 s) := by
      rw [show v2 = nI 1 from e1, XK, if_pos ((inR_t (k := 1) (by decide)).mpr ⟨1, by omega, rfl⟩), if_neg (by show ¬ (s1 s).1 = 0; have := hO2.2.1; omega)]; rfl
    obtain ⟨x1, x2, x3, x4⟩ := XKe _ hx
    have hsm := sum 27 (s1 s) (Or.inr rfl) hO2
    rw [hsm.1, hsm.2]
    refine ⟨fun n5 => ⟨fun g => ⟨fun _ => ⟨fun n4 => ?_, fun y4 => ?_⟩, fun y5 => absurd y5 n5⟩, fun g => by rw [x3 n5 g]; exact CA_no hs rfl⟩, fun y5 => ⟨fun g => ⟨fun n5 => absurd y5 n5, fun _ => ?_⟩, fun g => by rw [x4 y5 g]; exact CA_no hs rfl⟩⟩
    · rw [x1 n5 g, decide_eq_false n4]; exact BOTH_C hs hw rfl (Or.inr rfl) hO2 g rfl
    · rw [x1 n5 g, decide_eq_true y4]; exact BOTH_C hs hw rfl (Or.inr rfl) hO2 g rfl
    · rw [x2 y5 g]; exact PAIRS_C hs hw rfl (Or.inr rfl) hO2 g
theorem nz_ct {n : Nat} {S : Int32} (hS : ∀ i, i < 32 → bt S i = true → i < n) (h : ¬ S = 0) : 1 ≤ ct (bt S) n := by
  rcases Nat.eq_zero_or_pos (ct (bt S) n) with e | e
  · refine absurd (b_ext (fun i hi => ?_)) h
    rw [b_0, Bool.eq_false_iff]
    intro q
    rw [ct_0.mp e i (hS i hi q)] at q; cases q
  · exact e
theorem btw_0 {I : amI} {n : Nat} {A : Nat → Int32} (hO : OI I 3 n A) {a b : Int32} (h : ivB n A a b = false) : q_between I 3 a b = 0 := by
  have h16 := hO.2.2.1
  have hP := hO.2.2.2.2.2.1
  cases ea : elB n a
  · rw [q_between, q_from, hO.hasB, if_neg (by rw [ea]; decide)]
    apply b_ext; intro i _; rw [b_and, b_0, Bool.false_and]
  cases eb : elB n b
  · rw [q_between, q_upTo, hO.hasB, if_neg (by rw [eb]; decide)]
    apply b_ext; intro i _; rw [b_and, b_0, Bool.and_false]
  obtain ⟨x, hx, rfl⟩ := (el_t (by omega)).mp ea
  obtain ⟨y, hy, rfl⟩ := (el_t (by omega)).mp eb
  rw [ivB, ea, eb, Bool.true_and, Bool.true_and, cl_nI (by omega), cl_nI (by omega)] at h
  rw [hO.btw hx hy]
  apply b_ext
  intro i hi
  rw [b_0]
  by_cases hin : i < n
  · exact iv_no hP h16 hx hy h i hin
  · rw [iv_b (by omega) hy hi, decide_eq_false hin, Bool.false_and]
set_option maxRecDepth 100000 in
set_option maxHeartbeats 4000000 in
theorem b_X11_form_0 {z : amZ} {ce sl mc ms : Nat} {post : amP} {G : amG} {I : amI} {L : amL} (hz : Go z cX11_form RX11 5 (some .int) 6 mc ms post) (hce : ce ≤ mc ∧ sl ≤ ms) (hG : Lay G) {v1 : Int32} {v2 : Int32} {v3 : Int32} (h : ((v1 < (3 : Int32)) → ((¬ v1 = 0) → ((v1 = (1 : Int32)) → Wx z ce sl 49 [(0, .ref ((zB z).size + 0)), (1, .int v1), (2, .int v2), (3, .int v3)] [] G I L) ∧ ((¬ v1 = (1 : Int32)) → ((v1 = (2 : Int32)) → Wx z ce sl 49 [(0, .ref ((zB z).size + 0)), (1, .int v1), (2, .int v2), (3, .int v3)] [] G I L) ∧ ((¬ v1 = (2 : Int32)) → post (some (.int (-1))) G I L))) ∧ ((v1 = 0) → ∃ (dq5 mcq5 msq5 : Nat) (postq5 : amP), Nat.ble (dq5 + 1) 6 = true ∧ (ce + mcq5 ≤ mc ∧ sl + msq5 ≤ ms) ∧ Mx (zL z) (zD z) (zB z) yX4_becomeTurned cX4_becomeTurned 2 none dq5 mcq5 msq5 [.ref ((zB z).size + 10), .ref ((zB z).size + 3)] G I L postq5 ∧ ∀ (roq5 : Option Value) (Gq5 : amG) (Iq5 : amI) (Lq5 : amL), postq5 roq5 Gq5 Iq5 Lq5 → roq5 = none ∧ Lay Gq5 ∧ ∃ (dq6 mcq6 msq6 : Nat) (postq6 : amP), Nat.ble (dq6 + 1) 6 = true ∧ (ce + mcq5 + mcq6 ≤ mc ∧ sl + msq5 + msq6 ≤ ms) ∧ Mx (zL z) (zD z) (zB z) yX11_adoptDraft cX11_adoptDraft 1 (some .int) dq6 mcq6 msq6 [.ref ((zB z).size + 0)] Gq5 Iq5 Lq5 postq6 ∧ ∀ (roq6 : Option Value) (Gq6 : amG) (Iq6 : amI) (Lq6 : amL), postq6 roq6 Gq6 Iq6 Lq6 → ∃ (rq6 : Int32), roq6 = some (.int rq6) ∧ Lay Gq6 ∧ post (some (.int rq6)) Gq6 Iq6 Lq6)) ∧ ((¬ v1 < (3 : Int32)) → (((5 : Int32) < v1) → ((¬ v1 = 0) → ((v1 = (1 : Int32)) → Wx z ce sl 49 [(0, .ref ((zB z).size + 0)), (1, .int v1), (2, .int v2), (3, .int v3)] [] G I L) ∧ ((¬ v1 = (1 : Int32)) → ((v1 = (2 : Int32)) → Wx z ce sl 49 [(0, .ref ((zB z).size + 0)), (1, .int v1), (2, .int v2), (3, .int v3)] [] G I L) ∧ ((¬ v1 = (2 : Int32)) → post (some (.int (-1))) G I L))) ∧ ((v1 = 0) → ∃ (dq11 mcq11 msq11 : Nat) (postq11 : amP), Nat.ble (dq11 + 1) 6 = true ∧ (ce + mcq11 ≤ mc ∧ sl + msq11 ≤ ms) ∧ Mx (zL z) (zD z) (zB z) yX4_becomeTurned cX4_becomeTurned 2 none dq11 mcq11 msq11 [.ref ((zB z).size + 10), .ref ((zB z).size + 3)] G I L postq11 ∧ ∀ (roq11 : Option Value) (Gq11 : amG) (Iq11 : amI) (Lq11 : amL), postq11 roq11 Gq11 Iq11 Lq11 → roq11 = none ∧ Lay Gq11 ∧ ∃ (dq12 mcq12 msq12 : Nat) (postq12 : amP), Nat.ble (dq12 + 1) 6 = true ∧ (ce + mcq11 + mcq12 ≤ mc ∧ sl + msq11 + msq12 ≤ ms) ∧ Mx (zL z) (zD z) (zB z) yX11_adoptDraft cX11_adoptDraft 1 (some .int) dq12 mcq12 msq12 [.ref ((zB z).size + 0)] Gq11 Iq11 Lq11 postq12 ∧ ∀ (roq12 : Option Value) (Gq12 : amG) (Iq12 : amI) (Lq12 : amL), postq12 roq12 Gq12 Iq12 Lq12 → ∃ (rq12 : Int32), roq12 = some (.int rq12) ∧ Lay Gq12 ∧ post (some (.int rq12)) Gq12 Iq12 Lq12)) ∧ ((¬ (5 : Int32) < v1) → ∃ (dq13 mcq13 msq13 : Nat) (postq13 : amP), Nat.ble (dq13 + 1) 6 = true ∧ (ce + mcq13 ≤ mc ∧ sl + msq13 ≤ ms) ∧ Mx (zL z) (zD z) (zB z) yX11_formWithKept cX11_formWithKept 5 (some .int) dq13 mcq13 msq13 [.ref ((zB z).size + 0), .int v1, .int v2] G I L postq13 ∧ ∀ (roq13 : Option Value) (Gq13 : amG) (Iq13 : amI) (Lq13 : amL), postq13 roq13 Gq13 Iq13 Lq13 → ∃ (rq13 : Int32), roq13 = some (.int rq13) ∧ Lay Gq13 ∧ post (some (.int rq13)) Gq13 Iq13 Lq13))) : Wx z ce sl 0 [(0, .ref ((zB z).size + 0)), (1, .int v1), (2, .int v2), (3, .int v3)] [] G I L := by
  have hz1 := hz.1
  refine am_iload_n hz1 dX11_form_0 1 rfl rfl ?_
  refine am_iconst (v := 3) hz1 dX11_form_1 (by decide) ?_
  refine am_icmp_lt (tgt := 17) hz1 dX11_form_2 (by decide) (fun c1 => ?_) (fun c1 => ?_)
  · replace h := h.1 c1
    refine am_iload_n hz1 dX11_form_17 1 rfl rfl ?_
    refine am_if_ne (tgt := 37) hz1 dX11_form_18 (by decide) (fun c2 => ?_) (fun c2 => ?_)
    · replace h := h.1 c2
      refine am_iload_n hz1 dX11_form_37 1 rfl rfl ?_
      refine am_iconst (v := 1) hz1 dX11_form_38 (by decide) ?_
      refine am_icmp_eq (tgt := 49) hz1 dX11_form_39 (by decide) (fun c3 => ?_) (fun c3 => ?_)
      · replace h := h.1 c3
        exact h
      · replace h := h.2 c3
        refine am_iload_n hz1 dX11_form_42 1 rfl rfl ?_
        refine am_iconst (v := 2) hz1 dX11_form_43 (by decide) ?_
        refine am_icmp_eq (tgt := 49) hz1 dX11_form_44 (by decide) (fun c4 => ?_) (fun c4 => ?_)
        · replace h := h.1 c4
          exact h
        · replace h := h.2 c4
          refine am_iconst (v := (-1)) hz1 dX11_form_47 (by decide) ?_
          exact am_widen hce.1 hce.2 (am_ireturn hz dX11_form_48 h)
    · replace h := h.2 c2
      refine am_aload_n hz1 dX11_form_21 0 rfl rfl ?_
      refine am_getR hz1 fl_X11_25 (ln_0 hG) (lk_0 hG) (lr_0_3 hG) rfl dX11_form_22 ?_
      refine am_aload_n hz1 dX11_form_25 0 rfl rfl ?_
      refine am_getR hz1 fl_X11_21 (ln_0 hG) (lk_0 hG) (lr_0_2 hG) rfl dX11_form_26 ?_
      obtain ⟨dq5, mcq5, msq5, postq5, hdq5, hcq5, hMq5, h⟩ := h
      refine am_callV hz1 cv_X11_153 [.ref ((zB z).size + 3)] [] hMq5 (ln_10 hG) (lk_10 hG) rfl rfl (hz.fr hdq5) (hz.lo hdq5) (by rw [hz.2.1]; exact hcq5) (Nat.le_of_ble_eq_true rfl) dX11_form_29 (fun roq5 Gq5 Iq5 Lq5 hpq5 => ?_)
      obtain ⟨rfl, hGq5, h⟩ := h roq5 Gq5 Iq5 Lq5 hpq5
      refine am_aload_n hz1 dX11_form_32 0 rfl rfl ?_
      obtain ⟨dq6, mcq6, msq6, postq6, hdq6, hcq6, hMq6, h⟩ := h
      refine am_callV hz1 cv_X11_115 [] [] hMq6 (ln_0 hGq5) (lk_0 hGq5) rfl rfl (hz.fr hdq6) (hz.lo hdq6) (by rw [hz.2.1]; exact hcq6) (Nat.le_of_ble_eq_true rfl) dX11_form_33 (fun roq6 Gq6 Iq6 Lq6 hpq6 => ?_)
      obtain ⟨rq6, rfl, hGq6, h⟩ := h roq6 Gq6 Iq6 Lq6 hpq6
      exact am_widen hcq6.1 hcq6.2 (am_ireturn hz dX11_form_36 h)
  · replace h := h.2 c1
    refine am_iload_n hz1 dX11_form_5 1 rfl rfl ?_
    refine am_iconst (v := 5) hz1 dX11_form_6 (by decide) ?_
    refine am_icmp_gt (tgt := 17) hz1 dX11_form_7 (by decide) (fun c7 => ?_) (fun c7 => ?_)
    · replace h := h.1 c7
      refine am_iload_n hz1 dX11_form_17 1 rfl rfl ?_
      refine am_if_ne (tgt := 37) hz1 dX11_form_18 (by decide) (fun c8 => ?_) (fun c8 => ?_)
      · replace h := h.1 c8
        refine am_iload_n hz1 dX11_form_37 1 rfl rfl ?_
        refine am_iconst (v := 1) hz1 dX11_form_38 (by decide) ?_
        refine am_icmp_eq (tgt := 49) hz1 dX11_form_39 (by decide) (fun c9 => ?_) (fun c9 => ?_)
        · replace h := h.1 c9
          exact h
        · replace h := h.2 c9
          refine am_iload_n hz1 dX11_form_42 1 rfl rfl ?_
          refine am_iconst (v := 2) hz1 dX11_form_43 (by decide) ?_
          refine am_icmp_eq (tgt := 49) hz1 dX11_form_44 (by decide) (fun c10 => ?_) (fun c10 => ?_)
          · replace h := h.1 c10
            exact h
          · replace h := h.2 c10
            refine am_iconst (v := (-1)) hz1 dX11_form_47 (by decide) ?_
            exact am_widen hce.1 hce.2 (am_ireturn hz dX11_form_48 h)
      · replace h := h.2 c8
        refine am_aload_n hz1 dX11_form_21 0 rfl rfl ?_
        refine am_getR hz1 fl_X11_25 (ln_0 hG) (lk_0 hG) (lr_0_3 hG) rfl dX11_form_22 ?_
        refine am_aload_n hz1 dX11_form_25 0 rfl rfl ?_
        refine am_getR hz1 fl_X11_21 (ln_0 hG) (lk_0 hG) (lr_0_2 hG) rfl dX11_form_26 ?_
        obtain ⟨dq11, mcq11, msq11, postq11, hdq11, hcq11, hMq11, h⟩ := h
        refine am_callV hz1 cv_X11_153 [.ref ((zB z).size + 3)] [] hMq11 (ln_10 hG) (lk_10 hG) rfl rfl (hz.fr hdq11) (hz.lo hdq11) (by rw [hz.2.1]; exact hcq11) (Nat.le_of_ble_eq_true rfl) dX11_form_29 (fun roq11 Gq11 Iq11 Lq11 hpq11 => ?_)
        obtain ⟨rfl, hGq11, h⟩ := h roq11 Gq11 Iq11 Lq11 hpq11
        refine am_aload_n hz1 dX11_form_32 0 rfl rfl ?_
        obtain ⟨dq12, mcq12, msq12, postq12, hdq12, hcq12, hMq12, h⟩ := h
        refine am_callV hz1 cv_X11_115 [] [] hMq12 (ln_0 hGq11) (lk_0 hGq11) rfl rfl (hz.fr hdq12) (hz.lo hdq12) (by rw [hz.2.1]; exact hcq12) (Nat.le_of_ble_eq_true rfl) dX11_form_33 (fun roq12 Gq12 Iq12 Lq12 hpq12 => ?_)
        obtain ⟨rq12, rfl, hGq12, h⟩ := h roq12 Gq12 Iq12 Lq12 hpq12
        exact am_widen hcq12.1 hcq12.2 (am_ireturn hz dX11_form_36 h)
    · replace h := h.2 c7
      refine am_aload_n hz1 dX11_form_10 0 rfl rfl ?_
      refine am_iload_n hz1 dX11_form_11 1 rfl rfl ?_
      refine am_iload_n hz1 dX11_form_12 2 rfl rfl ?_
      obtain ⟨dq13, mcq13, msq13, postq13, hdq13, hcq13, hMq13, h⟩ := h
      refine am_callV hz1 cv_X11_149 [.int v1, .int v2] [] hMq13 (ln_0 hG) (lk_0 hG) rfl rfl (hz.fr hdq13) (hz.lo hdq13) (by rw [hz.2.1]; exact hcq13) (Nat.le_of_ble_eq_true rfl) dX11_form_13 (fun roq13 Gq13 Iq13 Lq13 hpq13 => ?_)
      obtain ⟨rq13, rfl, hGq13, h⟩ := h roq13 Gq13 Iq13 Lq13 hpq13
      exact am_widen hcq13.1 hcq13.2 (am_ireturn hz dX11_form_16 h)
set_option maxRecDepth 100000 in
set_option maxHeartbeats 4000000 in
theorem b_X11_form_49 {z : amZ} {ce sl mc ms : Nat} {post : amP} {G : amG} {I : amI} {L : amL} (hz : Go z cX11_form RX11 5 (some .int) 6 mc ms post) (hce : ce ≤ mc ∧ sl ≤ ms) (hG : Lay G) {v1 : Int32} {v2 : Int32} {v3 : Int32} (h : ((¬ v1 = (1 : Int32)) → ((v2 = 0) → post (some (.int (-1))) G I L) ∧ ((¬ v2 = 0) → (((v2 &&& ((q_all I 3) ^^^ (-1 : Int32))) = 0) → ∃ (dq4 mcq4 msq4 : Nat) (postq4 : amP), Nat.ble (dq4 + 1) 6 = true ∧ (ce + mcq4 ≤ mc ∧ sl + msq4 ≤ ms) ∧ Mx (zL z) (zD z) (zB z) yX4_becomePart cX4_becomePart 5 none dq4 mcq4 msq4 [.ref ((zB z).size + 10), .ref ((zB z).size + 3), .int v2] G I L postq4 ∧ ∀ (roq4 : Option Value) (Gq4 : amG) (Iq4 : amI) (Lq4 : amL), postq4 roq4 Gq4 Iq4 Lq4 → roq4 = none ∧ Lay Gq4 ∧ ∃ (dq5 mcq5 msq5 : Nat) (postq5 : amP), Nat.ble (dq5 + 1) 6 = true ∧ (ce + mcq4 + mcq5 ≤ mc ∧ sl + msq4 + msq5 ≤ ms) ∧ Mx (zL z) (zD z) (zB z) yX11_adoptDraft cX11_adoptDraft 1 (some .int) dq5 mcq5 msq5 [.ref ((zB z).size + 0)] Gq4 Iq4 Lq4 postq5 ∧ ∀ (roq5 : Option Value) (Gq5 : amG) (Iq5 : amI) (Lq5 : amL), postq5 roq5 Gq5 Iq5 Lq5 → ∃ (rq5 : Int32), roq5 = some (.int rq5) ∧ Lay Gq5 ∧ post (some (.int rq5)) Gq5 Iq5 Lq5) ∧ ((¬ (v2 &&& ((q_all I 3) ^^^ (-1 : Int32))) = 0) → post (some (.int (-1))) G I L))) ∧ ((v1 = (1 : Int32)) → (szOk I 3) ∧ (((q_between I 3 v2 v3) = 0) → post (some (.int (-1))) G I L) ∧ ((¬ (q_between I 3 v2 v3) = 0) → ((((q_between I 3 v2 v3) &&& ((q_all I 3) ^^^ (-1 : Int32))) = 0) → ∃ (dq9 mcq9 msq9 : Nat) (postq9 : amP), Nat.ble (dq9 + 1) 6 = true ∧ (ce + mcq9 ≤ mc ∧ sl + msq9 ≤ ms) ∧ Mx (zL z) (zD z) (zB z) yX4_becomePart cX4_becomePart 5 none dq9 mcq9 msq9 [.ref ((zB z).size + 10), .ref ((zB z).size + 3), .int (q_between I 3 v2 v3)] G I L postq9 ∧ ∀ (roq9 : Option Value) (Gq9 : amG) (Iq9 : amI) (Lq9 : amL), postq9 roq9 Gq9 Iq9 Lq9 → roq9 = none ∧ Lay Gq9 ∧ ∃ (dq10 mcq10 msq10 : Nat) (postq10 : amP), Nat.ble (dq10 + 1) 6 = true ∧ (ce + mcq9 + mcq10 ≤ mc ∧ sl + msq9 + msq10 ≤ ms) ∧ Mx (zL z) (zD z) (zB z) yX11_adoptDraft cX11_adoptDraft 1 (some .int) dq10 mcq10 msq10 [.ref ((zB z).size + 0)] Gq9 Iq9 Lq9 postq10 ∧ ∀ (roq10 : Option Value) (Gq10 : amG) (Iq10 : amI) (Lq10 : amL), postq10 roq10 Gq10 Iq10 Lq10 → ∃ (rq10 : Int32), roq10 = some (.int rq10) ∧ Lay Gq10 ∧ post (some (.int rq10)) Gq10 Iq10 Lq10) ∧ ((¬ ((q_between I 3 v2 v3) &&& ((q_all I 3) ^^^ (-1 : Int32))) = 0) → post (some (.int (-1))) G I L)))) : Wx z ce sl 49 [(0, .ref ((zB z).size + 0)), (1, .int v1), (2, .int v2), (3, .int v3)] [] G I L := by
  have hz1 := hz.1
  refine am_iload_n hz1 dX11_form_49 1 rfl rfl ?_
  refine am_iconst (v := 1) hz1 dX11_form_50 (by decide) ?_
  refine am_icmp_ne (tgt := 66) hz1 dX11_form_51 (by decide) (fun c1 => ?_) (fun c1 => ?_)
  · replace h := h.1 c1
    refine am_iload_n hz1 dX11_form_66 2 rfl rfl ?_
    refine am_istore (lv' := [(4, .int v2), (0, .ref ((zB z).size + 0)), (1, .int v1), (2, .int v2), (3, .int v3)]) hz1 dX11_form_67 rfl rfl ?_
    refine am_iload hz1 dX11_form_69 0 rfl ?_
    refine am_if_eq (tgt := 89) hz1 dX11_form_71 (by decide) (fun c2 => ?_) (fun c2 => ?_)
    · replace h := h.1 c2
      refine am_iconst (v := (-1)) hz1 dX11_form_89 (by decide) ?_
      exact am_widen hce.1 hce.2 (am_ireturn hz dX11_form_90 h)
    · replace h := h.2 c2
      refine am_iload hz1 dX11_form_74 0 rfl ?_
      refine am_aload_n hz1 dX11_form_76 1 rfl rfl ?_
      refine am_getR hz1 fl_X11_21 (ln_0 hG) (lk_0 hG) (lr_0_2 hG) rfl dX11_form_77 ?_
      refine am_cVf hz cv_X11_159 [] [.int v2] (c_X4_all hG isO_3  ) (ln_3 hG) (lk_3 hG) rfl rfl rfl hce (Nat.le_of_ble_eq_true rfl) dX11_form_80 ?_
      refine am_iconst (v := (-1)) hz1 dX11_form_83 (by decide) ?_
      refine am_ixor hz1 dX11_form_84 ?_
      refine am_iand hz1 dX11_form_85 ?_
      refine am_if_eq (tgt := 91) hz1 dX11_form_86 (by decide) (fun c3 => ?_) (fun c3 => ?_)
      · replace h := h.1 c3
        refine am_aload_n hz1 dX11_form_91 1 rfl rfl ?_
        refine am_getR hz1 fl_X11_25 (ln_0 hG) (lk_0 hG) (lr_0_3 hG) rfl dX11_form_92 ?_
        refine am_aload_n hz1 dX11_form_95 1 rfl rfl ?_
        refine am_getR hz1 fl_X11_21 (ln_0 hG) (lk_0 hG) (lr_0_2 hG) rfl dX11_form_96 ?_
        refine am_iload hz1 dX11_form_99 0 rfl ?_
        obtain ⟨dq4, mcq4, msq4, postq4, hdq4, hcq4, hMq4, h⟩ := h
        refine am_callV hz1 cv_X11_162 [.ref ((zB z).size + 3), .int v2] [] hMq4 (ln_10 hG) (lk_10 hG) rfl rfl (hz.fr hdq4) (hz.lo hdq4) (by rw [hz.2.1]; exact hcq4) (Nat.le_of_ble_eq_true rfl) dX11_form_101 (fun roq4 Gq4 Iq4 Lq4 hpq4 => ?_)
        obtain ⟨rfl, hGq4, h⟩ := h roq4 Gq4 Iq4 Lq4 hpq4
        refine am_aload_n hz1 dX11_form_104 1 rfl rfl ?_
        obtain ⟨dq5, mcq5, msq5, postq5, hdq5, hcq5, hMq5, h⟩ := h
        refine am_callV hz1 cv_X11_115 [] [] hMq5 (ln_0 hGq4) (lk_0 hGq4) rfl rfl (hz.fr hdq5) (hz.lo hdq5) (by rw [hz.2.1]; exact hcq5) (Nat.le_of_ble_eq_true rfl) dX11_form_105 (fun roq5 Gq5 Iq5 Lq5 hpq5 => ?_)
        obtain ⟨rq5, rfl, hGq5, h⟩ := h roq5 Gq5 Iq5 Lq5 hpq5
        exact am_widen hcq5.1 hcq5.2 (am_ireturn hz dX11_form_108 h)
      · replace h := h.2 c3
        refine am_iconst (v := (-1)) hz1 dX11_form_89 (by decide) ?_
        exact am_widen hce.1 hce.2 (am_ireturn hz dX11_form_90 h)
  · replace h := h.2 c1
    refine am_aload_n hz1 dX11_form_54 0 rfl rfl ?_
    refine am_getR hz1 fl_X11_21 (ln_0 hG) (lk_0 hG) (lr_0_2 hG) rfl dX11_form_55 ?_
    refine am_iload_n hz1 dX11_form_58 2 rfl rfl ?_
    refine am_iload_n hz1 dX11_form_59 3 rfl rfl ?_
    obtain ⟨g6, h⟩ := h
    refine am_cVf hz cv_X11_156 [.int v2, .int v3] [] (c_X4_between hG isO_3 v2 v3 g6) (ln_3 hG) (lk_3 hG) rfl rfl rfl hce (Nat.le_of_ble_eq_true rfl) dX11_form_60 ?_
    refine am_goto (tgt := 67) hz1 dX11_form_63 (by decide) ?_
    refine am_istore (lv' := [(4, .int (q_between I 3 v2 v3)), (0, .ref ((zB z).size + 0)), (1, .int v1), (2, .int v2), (3, .int v3)]) hz1 dX11_form_67 rfl rfl ?_
    refine am_iload hz1 dX11_form_69 0 rfl ?_
    refine am_if_eq (tgt := 89) hz1 dX11_form_71 (by decide) (fun c7 => ?_) (fun c7 => ?_)
    · replace h := h.1 c7
      refine am_iconst (v := (-1)) hz1 dX11_form_89 (by decide) ?_
      exact am_widen hce.1 hce.2 (am_ireturn hz dX11_form_90 h)
    · replace h := h.2 c7
      refine am_iload hz1 dX11_form_74 0 rfl ?_
      refine am_aload_n hz1 dX11_form_76 1 rfl rfl ?_
      refine am_getR hz1 fl_X11_21 (ln_0 hG) (lk_0 hG) (lr_0_2 hG) rfl dX11_form_77 ?_
      refine am_cVf hz cv_X11_159 [] [.int (q_between I 3 v2 v3)] (c_X4_all hG isO_3  ) (ln_3 hG) (lk_3 hG) rfl rfl rfl hce (Nat.le_of_ble_eq_true rfl) dX11_form_80 ?_
      refine am_iconst (v := (-1)) hz1 dX11_form_83 (by decide) ?_
      refine am_ixor hz1 dX11_form_84 ?_
      refine am_iand hz1 dX11_form_85 ?_
      refine am_if_eq (tgt := 91) hz1 dX11_form_86 (by decide) (fun c8 => ?_) (fun c8 => ?_)
      · replace h := h.1 c8
        refine am_aload_n hz1 dX11_form_91 1 rfl rfl ?_
        refine am_getR hz1 fl_X11_25 (ln_0 hG) (lk_0 hG) (lr_0_3 hG) rfl dX11_form_92 ?_
        refine am_aload_n hz1 dX11_form_95 1 rfl rfl ?_
        refine am_getR hz1 fl_X11_21 (ln_0 hG) (lk_0 hG) (lr_0_2 hG) rfl dX11_form_96 ?_
        refine am_iload hz1 dX11_form_99 0 rfl ?_
        obtain ⟨dq9, mcq9, msq9, postq9, hdq9, hcq9, hMq9, h⟩ := h
        refine am_callV hz1 cv_X11_162 [.ref ((zB z).size + 3), .int (q_between I 3 v2 v3)] [] hMq9 (ln_10 hG) (lk_10 hG) rfl rfl (hz.fr hdq9) (hz.lo hdq9) (by rw [hz.2.1]; exact hcq9) (Nat.le_of_ble_eq_true rfl) dX11_form_101 (fun roq9 Gq9 Iq9 Lq9 hpq9 => ?_)
        obtain ⟨rfl, hGq9, h⟩ := h roq9 Gq9 Iq9 Lq9 hpq9
        refine am_aload_n hz1 dX11_form_104 1 rfl rfl ?_
        obtain ⟨dq10, mcq10, msq10, postq10, hdq10, hcq10, hMq10, h⟩ := h
        refine am_callV hz1 cv_X11_115 [] [] hMq10 (ln_0 hGq9) (lk_0 hGq9) rfl rfl (hz.fr hdq10) (hz.lo hdq10) (by rw [hz.2.1]; exact hcq10) (Nat.le_of_ble_eq_true rfl) dX11_form_105 (fun roq10 Gq10 Iq10 Lq10 hpq10 => ?_)
        obtain ⟨rq10, rfl, hGq10, h⟩ := h roq10 Gq10 Iq10 Lq10 hpq10
        exact am_widen hcq10.1 hcq10.2 (am_ireturn hz dX11_form_108 h)
      · replace h := h.2 c8
        refine am_iconst (v := (-1)) hz1 dX11_form_89 (by decide) ?_
        exact am_widen hce.1 hce.2 (am_ireturn hz dX11_form_90 h)
set_option maxRecDepth 100000 in
set_option maxHeartbeats 4000000 in
theorem c_X11_form {l : Launch} {D : va_G} {B : Heap} {G : amG} {I : amI} {L : amL}  (hG : Lay G)  (v1 : Int32) (v2 : Int32) (v3 : Int32) {s : St} (hs : CO s G I L) (hw : WF s) : Mx l D B yX11_form cX11_form 5 (some .int) 6 5 1078 [.ref (B.size + 0), .int v1, .int v2, .int v3] G I L (CA (xForm s v1 v2 v3).2 (xForm s v1 v2 v3).1 G I L) := by
  refine Mx.of (by decide) rfl rfl (fun z e1 e2 e3 hz => ?_)
  subst e1; subst e2; subst e3
  refine b_X11_form_0 hz ⟨Nat.zero_le _, Nat.zero_le _⟩ hG ?_
  have hO := hs.2.1.1
  have h16 := hO.2.2.1
  have h1 := hO.2.1
  have hP := hO.2.2.2.2.2.1
  have part : ∀ S, (∀ i, i < 32 → bt S i = true → i < rN (sC s)) → ¬ S = 0 → upF (zL z) (zD z) (zB z) 6 yX4_becomePart cX4_becomePart 5 [.ref ((zB z).size + 10), .ref ((zB z).size + 3), .int S] s (ct (bt S) (rN (sC s))) (parA (rN (sC s)) (rA (sC s)) S) G I L := fun S a b => PART_C hs hw rfl a (nz_ct a b)
  have sub : ∀ S : Int32, S &&& (q_all I 3 ^^^ (-1)) = 0 → ¬ S = 0 → setB (rN (sC s)) S = true := fun S a b => by rw [setB, decide_eq_true b, ← hO.all, decide_eq_true a]; rfl
  have h49 : (v1 = 1 ∨ v1 = 2) → Wx z 0 0 49 [(0, .ref ((zB z).size + 0)), (1, .int v1), (2, .int v2), (3, .int v3)] [] G I L := fun hv => by
    refine b_X11_form_49 hz ⟨Nat.zero_le _, Nat.zero_le _⟩ hG ⟨fun n1 => ?_, fun y1 => ⟨hO.sz, ?_⟩⟩
    · have y2 : v1 = 2 := hv.resolve_left n1
      refine ⟨fun e => ?_, fun e => ⟨fun g => ?_, fun g => ?_⟩⟩
      · rw [y2, xForm, if_neg (by decide), if_neg (by decide), if_pos rfl, if_neg (by rw [setB, decide_eq_false (not_not_intro e)]; simp)]; exact CA_no hs rfl
      · have hb := sub v2 g e
        rw [y2, xForm, if_neg (by decide), if_neg (by decide), if_pos rfl, if_pos hb]
        exact part v2 ((set_t h16).mp hb).2 e
      · rw [y2, xForm, if_neg (by decide), if_neg (by decide), if_pos rfl, if_neg (by rw [setB, ← hO.all, decide_eq_false g]; simp)]; exact CA_no hs rfl
    · cases hb : ivB (rN (sC s)) (rA (sC s)) v2 v3
      · rw [btw_0 hO hb]
        refine ⟨fun _ => ?_, fun g => absurd rfl g⟩
        rw [y1, xForm, if_neg (by decide), if_pos rfl, if_neg (by rw [hb]; decide)]; exact CA_no hs rfl
      · have hc := hb
        obtain ⟨x, y, hx, hy, rfl, rfl, hl⟩ := (iv_t h16).mp hb
        rw [hO.btw hx hy]
        have hlt := iv_lt (n := rN (sC s)) (A := rA (sC s)) (a := x) (by omega) hy
        have hne : ¬ ivS (rN (sC s)) (rA (sC s)) x y = 0 := fun e => by
          have : bt (ivS (rN (sC s)) (rA (sC s)) x y) x = true := by rw [iv_b (by omega) hy (by omega), decide_eq_true hx, le_rf (by omega), hl]; rfl
          rw [e, b_0] at this; cases this
        have hb2 : ivS (rN (sC s)) (rA (sC s)) x y &&& (q_all I 3 ^^^ (-1)) = 0 := b_ext fun i hi => by
          rw [b_and, hO.all, b_not _ hi, b_0]
          cases e : bt (ivS (rN (sC s)) (rA (sC s)) x y) i
          · rfl
          · rw [all_bt h16 i (hlt i hi e)]; rfl
        refine ⟨fun e => absurd e hne, fun e => ⟨fun g => ?_, fun g => absurd hb2 g⟩⟩
        rw [y1, xForm, if_neg (by decide), if_pos rfl, if_pos hc, cl_nI (by omega), cl_nI (by omega)]
        exact part _ hlt hne
  have no : ¬ v1 = 0 → ¬ v1 = 1 → ¬ v1 = 2 → ¬ (v1 = 3 ∨ v1 = 4 ∨ v1 = 5) → xForm s v1 v2 v3 = (-1, s) := fun a b c d => by rw [xForm, if_neg a, if_neg b, if_neg c, if_neg d]
  refine ⟨fun lt => ⟨fun n0 => ⟨fun y1 => h49 (Or.inl y1), fun n1 => ⟨fun y2 => h49 (Or.inr y2), fun n2 => ?_⟩⟩, fun y0 => ?_⟩, fun ge => ⟨fun gt => ⟨fun n0 => ⟨fun y1 => h49 (Or.inl y1), fun n1 => ⟨fun y2 => h49 (Or.inr y2), fun n2 => ?_⟩⟩, fun y0 => ?_⟩, fun le5 => ?_⟩⟩
  · rw [no n0 n1 n2 (by rintro (rfl | rfl | rfl) <;> exact absurd lt (by decide))]; exact CA_no hs rfl
  · rw [y0, xForm, if_pos rfl]; exact TURN_C hs hw rfl
  · rw [no n0 n1 n2 (by rintro (rfl | rfl | rfl) <;> exact absurd gt (by decide))]; exact CA_no hs rfl
  · rw [y0] at gt; exact absurd gt (by decide)
  · have h345 : v1 = 3 ∨ v1 = 4 ∨ v1 = 5 := by
      have e3 : (3 : Int32).toInt = 3 := by decide
      have e4 : (4 : Int32).toInt = 4 := by decide
      have e5 : (5 : Int32).toInt = 5 := by decide
      rw [Int32.lt_iff_toInt_lt, e3] at ge
      rw [Int32.lt_iff_toInt_lt, e5] at le5
      rw [← Int32.toInt_inj, ← Int32.toInt_inj, ← Int32.toInt_inj, e3, e4, e5]
      omega
    have hx : xForm s v1 v2 v3 = XK s v1 v2 := by
      rw [xForm, if_neg (by rintro rfl; revert h345; decide), if_neg (by rintro rfl; revert h345; decide), if_neg (by rintro rfl; revert h345; decide), if_pos h345]; rfl
    rw [hx]
    exact ⟨5, 5, 1078, _, rfl, ⟨by omega, by omega⟩, c_X11_formWithKept hG _ _ hs hw h345, fun ro G1 I1 L1 ⟨u1, u2, u3, u4⟩ => ⟨_, u1, u2.1, rfl, u2, u3, u4⟩⟩
