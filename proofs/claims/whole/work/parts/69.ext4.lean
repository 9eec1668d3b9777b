/-! LINEAR EXTENSIONS OF THE CLASS: its methods -/
theorem b_bitv (x : Int32) (k : Nat) (hk : k < 32) : (x >>> (nI k &&& 31)) &&& 1 = if bt x k = true then 1 else 0 := by
  have h1 : ∀ i, i < 32 → bt (1 : Int32) i = decide (i = 0) := by decide +kernel
  by_cases e : bt x k = true
  · rw [if_pos e]; exact (b_bit x k hk).mpr e
  · rw [if_neg e]
    apply b_ext
    intro i hi
    rw [b_and, h1 i hi, b_0]
    by_cases e2 : i = 0
    · subst e2
      rw [b_sshr k hk x hi, Nat.add_zero, if_pos hk]
      rw [Bool.not_eq_true] at e
      rw [e]; rfl
    · rw [decide_eq_false e2, Bool.and_false]
theorem b_bitz (x : Int32) (k : Nat) (hk : k < 32) : (x >>> (nI k &&& 31)) &&& 1 = 0 ↔ bt x k = false := by
  rw [b_bitv x k hk]
  cases bt x k <;> decide
theorem pkv_p (b s : Int32) : ∀ n, n ≤ 16 → pkv b s n = pkp (bt b) s n
  | 0, _ => rfl
  | n + 1, h => by
    rw [pkv, pkp, pkv_p b s n (by omega), pkc_ct, b_bitv b n (by omega)]
    by_cases e : bt s n = true
    · rw [if_pos e, if_pos e]
      by_cases e2 : bt b n = true
      · rw [if_pos e2, if_pos e2]
      · rw [if_neg e2, if_neg e2]
        congr 1
        apply b_ext
        intro i hi
        have := ct_le (bt s) n
        rw [b_shl _ (by omega) 0 hi, b_0, b_0, Bool.and_false]
    · rw [if_neg e, if_neg e]
theorem nd_bn {I : amI} {n : Nat} {A : Nat → Int32} {s : Int32} (hO : OI I 3 n A) {j : Nat} (hj : j < ct (bt s) n) : ndG I s n j = bn (ct (bt s) n) (parA n A s) j := by
  have h16 := hO.2.2.1
  have hc := ct_le (bt s) n
  obtain ⟨h1, h2, h3⟩ := elN_in hj
  have := ndG_at (I := I) h1 h2
  rw [h3] at this
  rw [this, hO.2.2.2.2.2.2.1 _ h1, q_packed, hO.1, cl_nI (by omega), pkv_p _ _ n h16]
  apply b_ext
  intro i hi
  rw [pkp_b n h16 i hi, bn_bt (by omega) hi]
  by_cases e : i < ct (bt s) n
  · rw [decide_eq_true e, Bool.true_and, Bool.true_and, par_b h16 e (by omega), decide_eq_true hj, Bool.true_and, bn_bt (by omega) (by have := (elN_in e).1; omega), decide_eq_true (elN_in e).1, Bool.true_and]
  · rw [decide_eq_false e, Bool.false_and, Bool.false_and]
/-- the row of ways: where it lies, how long it is -/
def WY (G : amG) (wp len : Nat) : Prop := gR G 56 4 = some wp ∧ wp < gN G ∧ gK G wp = 52 ∧ gL G wp = len
def wO (len : Nat) : Prop := len = 0 ∨ ∃ j, j ≤ 16 ∧ len = 2 ^ j
theorem wO_le {len : Nat} (h : wO len) : len ≤ 65536 := by
  rcases h with h | ⟨j, hj, h⟩
  · omega
  · rw [h]; exact p2_le hj
def wM (len m : Nat) : Nat := if len < 2 ^ m then 2 ^ m else len
theorem wM_O {len m : Nat} (h : wO len) (hm : m ≤ 16) : wO (wM len m) := by
  rw [wM]
  split
  · exact Or.inr ⟨m, hm, rfl⟩
  · exact h
theorem wM_le {len m : Nat} : len ≤ wM len m := by
  rw [wM]
  split
  · omega
  · exact Nat.le_refl _
theorem wM_c {len m : Nat} (h : wO len) (hl : len < 2 ^ m) : 2 ^ m ≤ 2 * (wM len m - len) := by
  rw [wM, if_pos hl]
  rcases h with h | ⟨j, hj, h⟩
  · omega
  · have : j < m := (Nat.pow_lt_pow_iff_right (a := 2) (by decide)).mp (by rw [← h]; exact hl)
    have h2 : 2 ^ (j + 1) ≤ 2 ^ m := Nat.pow_le_pow_right (by decide) this
    rw [Nat.pow_succ] at h2
    omega
/-- what lay there stays, but for the row's reference -/
def gX (G G1 : amG) : Prop := gN G ≤ gN G1 ∧ ∀ p, p < gN G → gK G1 p = gK G p ∧ gL G1 p = gL G p ∧ ∀ k, (p = 56 → k ≠ 4) → gR G1 p k = gR G p k
theorem gX.rfl {G : amG} : gX G G := ⟨Nat.le_refl _, fun _ _ => ⟨Eq.refl _, Eq.refl _, fun _ _ => Eq.refl _⟩⟩
theorem gX.trans {G G1 G2 : amG} (h : gX G G1) (h2 : gX G1 G2) : gX G G2 :=
  ⟨Nat.le_trans h.1 h2.1, fun p hp => by
    obtain ⟨a1, a2, a3⟩ := h.2 p hp
    obtain ⟨b1, b2, b3⟩ := h2.2 p (Nat.lt_of_lt_of_le hp h.1)
    exact ⟨by rw [b1, a1], by rw [b2, a2], fun k hk => by rw [b3 k hk, a3 k hk]⟩⟩
def XF (G : amG) (I : amI) (L : amL) (wp len1 : Nat) (G1 : amG) (I1 : amI) (L1 : amL) : Prop := Lay G1 ∧ gX G G1 ∧ (∀ q, q < gN G → q ≠ 59 → I1 q = I q) ∧ (∀ q, q < gN G → q ≠ 58 → q ≠ wp → L1 q = L q) ∧ ∃ wp1, WY G1 wp1 len1 ∧ (wp1 = wp ∨ gN G ≤ wp1)
theorem XF.trans {G G1 G2 : amG} {I I1 I2 : amI} {L L1 L2 : amL} {wp l1 l2 : Nat} (h : XF G I L wp l1 G1 I1 L1) {wp1 : Nat} (hw : WY G1 wp1 l1) (h2 : XF G1 I1 L1 wp1 l2 G2 I2 L2) : XF G I L wp l2 G2 I2 L2 := by
  obtain ⟨a1, a2, a3, a4, w, a5, a6⟩ := h
  obtain ⟨b1, b2, b3, b4, w2, b5, b6⟩ := h2
  have hww : w = wp1 := by
    have := a5.1
    rw [hw.1] at this
    exact (Option.some.inj this).symm
  subst hww
  have hlt : ∀ q, q < gN G → q < gN G1 := fun q hq => Nat.lt_of_lt_of_le hq a2.1
  refine ⟨b1, a2.trans b2, fun q hq h1 => by rw [b3 q (hlt q hq) h1, a3 q hq h1], fun q hq h1 h3 => ?_, w2, b5, ?_⟩
  · rw [b4 q (hlt q hq) h1 (fun e => by rcases a6 with a6 | a6 <;> omega), a4 q hq h1 h3]
  · have := a2.1
    rcases b6 with b6 | b6
    · rw [b6]; exact a6
    · right; omega
theorem OI_X {I I1 : amI} {n : Nat} {A : Nat → Int32} {G : amG} (hG : Lay G) (h : OI I 3 n A) (hf : ∀ q, q < gN G → q ≠ 59 → I1 q = I q) : OI I1 3 n A := OI_c h (fun j hj => hf (3 + j) (by have := hG.1; omega) (by omega))
set_option maxRecDepth 100000 in
set_option maxHeartbeats 4000000 in
theorem b_X7_extensionsByDownSets_0 {z : amZ} {ce sl mc ms : Nat} {post : amP} {G : amG} {I : amI} {L : amL} (hz : Go z cX7_extensionsByDownSets RX7 6 (some .long) 2 mc ms post) (hce : ce ≤ mc ∧ sl ≤ ms) (hG : Lay G) {wp : Nat} (hr_wp : gR G 56 4 = some wp) (hn_wp : wp < gN G) (hk_wp : gK G wp = 52) {v1 : Int32} (h : (szOk I 3) ∧ ((((1 : Int32) <<< ((nI (ct (bt v1) (sz I 3))) &&& 31)) ≤ (Int32.ofNat (gL G wp))) → Wx z ce sl 26 [(0, .ref ((zB z).size + 56)), (2, .int (nI (ct (bt v1) (sz I 3)))), (3, .int ((1 : Int32) <<< ((nI (ct (bt v1) (sz I 3))) &&& 31)))] [] G (setI I 59 (ndG I v1 (sz I 3))) L) ∧ ((¬ ((1 : Int32) <<< ((nI (ct (bt v1) (sz I 3))) &&& 31)) ≤ (Int32.ofNat (gL G wp))) → (¬ ((1 : Int32) <<< ((nI (ct (bt v1) (sz I 3))) &&& 31)) < 0 ∧ ce + 1 ≤ mc ∧ sl + ((1 : Int32) <<< ((nI (ct (bt v1) (sz I 3))) &&& 31)).toNatClampNeg ≤ ms ∧ ((1 : Int32) <<< ((nI (ct (bt v1) (sz I 3))) &&& 31)).toNatClampNeg * componentBytes .long ≤ 536870912) ∧ Wx z (ce + 1) (sl + ((1 : Int32) <<< ((nI (ct (bt v1) (sz I 3))) &&& 31)).toNatClampNeg) 26 [(0, .ref ((zB z).size + 56)), (2, .int (nI (ct (bt v1) (sz I 3)))), (3, .int ((1 : Int32) <<< ((nI (ct (bt v1) (sz I 3))) &&& 31)))] [] (setR (gNew G 52 ((1 : Int32) <<< ((nI (ct (bt v1) (sz I 3))) &&& 31)).toNatClampNeg) 56 (va_up (gR (gNew G 52 ((1 : Int32) <<< ((nI (ct (bt v1) (sz I 3))) &&& 31)).toNatClampNeg) 56) 4 (some (gN G)))) (setI (setI I 59 (ndG I v1 (sz I 3))) (gN G) (fun _ => 0)) (setL L (gN G) (fun _ => 0)))) : Wx z ce sl 0 [(0, .ref ((zB z).size + 56)), (1, .int v1)] [] G I L := by
  have hz1 := hz.1
  refine am_aload_n hz1 dX7_extensionsByDownSets_0 0 rfl rfl ?_
  refine am_iload_n hz1 dX7_extensionsByDownSets_1 1 rfl rfl ?_
  obtain ⟨g1, h⟩ := h
  refine am_cVf hz cv_X7_112 [.int v1] [] (c_X7_fillNeeds hG v1 g1) (ln_56 hG) (lk_56 hG) rfl rfl rfl hce (Nat.le_of_ble_eq_true rfl) dX7_extensionsByDownSets_2 ?_
  refine am_istore_n (lv' := [(2, .int (nI (ct (bt v1) (sz I 3)))), (0, .ref ((zB z).size + 56)), (1, .int v1)]) hz1 dX7_extensionsByDownSets_5 rfl rfl rfl ?_
  refine am_iconst (v := 1) hz1 dX7_extensionsByDownSets_6 (by decide) ?_
  refine am_iload_n hz1 dX7_extensionsByDownSets_7 0 rfl rfl ?_
  refine am_ishl hz1 dX7_extensionsByDownSets_8 ?_
  refine am_istore_n (lv' := [(3, .int ((1 : Int32) <<< ((nI (ct (bt v1) (sz I 3))) &&& 31))), (2, .int (nI (ct (bt v1) (sz I 3)))), (0, .ref ((zB z).size + 56)), (1, .int v1)]) hz1 dX7_extensionsByDownSets_9 rfl rfl rfl ?_
  refine am_aload_n hz1 dX7_extensionsByDownSets_10 2 rfl rfl ?_
  refine am_getR hz1 fl_X7_22 (ln_56 hG) (lk_56 hG) hr_wp rfl dX7_extensionsByDownSets_11 ?_
  refine am_alenL hz1 hn_wp hk_wp dX7_extensionsByDownSets_14 ?_
  refine am_iload_n hz1 dX7_extensionsByDownSets_15 0 rfl rfl ?_
  refine am_icmp_ge (tgt := 26) hz1 dX7_extensionsByDownSets_16 (by decide) (fun c2 => ?_) (fun c2 => ?_)
  · replace h := h.1 c2
    exact am_sub (lv' := [(0, .ref ((zB z).size + 56)), (2, .int (nI (ct (bt v1) (sz I 3)))), (3, .int ((1 : Int32) <<< ((nI (ct (bt v1) (sz I 3))) &&& 31)))]) [2, 1, 0] rfl h
  · replace h := h.2 c2
    refine am_aload_n hz1 dX7_extensionsByDownSets_19 2 rfl rfl ?_
    refine am_iload_n hz1 dX7_extensionsByDownSets_20 0 rfl rfl ?_
    obtain ⟨g3, h⟩ := h
    refine am_newL hz1 ac_long g3.1 rfl g3.2.2.2 (by rw [hz.2.1]; exact g3.2.1) (by rw [hz.2.1]; exact g3.2.2.1) dX7_extensionsByDownSets_21 ?_
    refine am_putR hz1 fl_X7_22 (ln_56 (Lay_new hG)) (lk_56 (Lay_new hG)) (fun _ => rfl) (fun _ => rfl) (fun _ => rfl) dX7_extensionsByDownSets_23 ?_
    exact am_sub (lv' := [(0, .ref ((zB z).size + 56)), (2, .int (nI (ct (bt v1) (sz I 3)))), (3, .int ((1 : Int32) <<< ((nI (ct (bt v1) (sz I 3))) &&& 31)))]) [2, 1, 0] rfl h
set_option maxRecDepth 100000 in
set_option maxHeartbeats 4000000 in
theorem b_X7_extensionsByDownSets_26 {z : amZ} {ce sl mc ms : Nat} {post : amP} {G : amG} {I : amI} {L : amL} (hz : Go z cX7_extensionsByDownSets RX7 6 (some .long) 2 mc ms post) (hce : ce ≤ mc ∧ sl ≤ ms) (hG : Lay G) {wp : Nat} (hr_wp : gR G 56 4 = some wp) (hn_wp : wp < gN G) (hk_wp : gK G wp = 52) {v2 : Int32} {v3 : Int32} (h : Wx z ce sl 29 [(0, .ref ((zB z).size + 56)), (2, .int v2), (3, .int v3), (4, .int 1)] [] G I L) : Wx z ce sl 26 [(0, .ref ((zB z).size + 56)), (2, .int v2), (3, .int v3)] [] G I L := by
  have hz1 := hz.1
  refine am_iconst (v := 1) hz1 dX7_extensionsByDownSets_26 (by decide) ?_
  refine am_istore (lv' := [(4, .int 1), (0, .ref ((zB z).size + 56)), (2, .int v2), (3, .int v3)]) hz1 dX7_extensionsByDownSets_27 rfl rfl ?_
  exact am_sub (lv' := [(0, .ref ((zB z).size + 56)), (2, .int v2), (3, .int v3), (4, .int 1)]) [1, 2, 3, 0] rfl h
set_option maxRecDepth 100000 in
set_option maxHeartbeats 4000000 in
theorem b_X7_extensionsByDownSets_29 {z : amZ} {ce sl mc ms : Nat} {post : amP} {G : amG} {I : amI} {L : amL} (hz : Go z cX7_extensionsByDownSets RX7 6 (some .long) 2 mc ms post) (hce : ce ≤ mc ∧ sl ≤ ms) (hG : Lay G) {wp : Nat} (hr_wp : gR G 56 4 = some wp) (hn_wp : wp < gN G) (hk_wp : gK G wp = 52) {v2 : Int32} {v3 : Int32} {v4 : Int32} (h : ((v3 ≤ v4) → vp_in (0 : Int32) (gL G wp) ∧ Wx z ce sl 59 [(0, .ref ((zB z).size + 56)), (2, .int v2), (3, .int v3), (4, .int 0)] [] G I (setL L wp (vp_updL (L wp) (0 : Int32).toNatClampNeg (1 : Int64)))) ∧ ((¬ v3 ≤ v4) → vp_in v4 (gL G wp) ∧ Wx z ce sl 29 [(0, .ref ((zB z).size + 56)), (2, .int v2), (3, .int v3), (4, .int (v4 + 1))] [] G I (setL L wp (vp_updL (L wp) v4.toNatClampNeg (0 : Int64))))) : Wx z ce sl 29 [(0, .ref ((zB z).size + 56)), (2, .int v2), (3, .int v3), (4, .int v4)] [] G I L := by
  have hz1 := hz.1
  refine am_iload hz1 dX7_extensionsByDownSets_29 3 rfl ?_
  refine am_iload_n hz1 dX7_extensionsByDownSets_31 2 rfl rfl ?_
  refine am_icmp_ge (tgt := 49) hz1 dX7_extensionsByDownSets_32 (by decide) (fun c1 => ?_) (fun c1 => ?_)
  · replace h := h.1 c1
    refine am_aload_n hz1 dX7_extensionsByDownSets_49 0 rfl rfl ?_
    refine am_getR hz1 fl_X7_22 (ln_56 hG) (lk_56 hG) hr_wp rfl dX7_extensionsByDownSets_50 ?_
    refine am_iconst (v := 0) hz1 dX7_extensionsByDownSets_53 (by decide) ?_
    refine am_lconst (v := 1) hz1 dX7_extensionsByDownSets_54 (by decide) ?_
    obtain ⟨g2, h⟩ := h
    refine am_last hz1 hn_wp hk_wp g2 dX7_extensionsByDownSets_55 ?_
    refine am_iconst (v := 0) hz1 dX7_extensionsByDownSets_56 (by decide) ?_
    refine am_istore (lv' := [(4, .int 0), (0, .ref ((zB z).size + 56)), (2, .int v2), (3, .int v3)]) hz1 dX7_extensionsByDownSets_57 rfl rfl ?_
    exact am_sub (lv' := [(0, .ref ((zB z).size + 56)), (2, .int v2), (3, .int v3), (4, .int 0)]) [1, 2, 3, 0] rfl h
  · replace h := h.2 c1
    refine am_aload_n hz1 dX7_extensionsByDownSets_35 0 rfl rfl ?_
    refine am_getR hz1 fl_X7_22 (ln_56 hG) (lk_56 hG) hr_wp rfl dX7_extensionsByDownSets_36 ?_
    refine am_iload hz1 dX7_extensionsByDownSets_39 3 rfl ?_
    refine am_lconst (v := 0) hz1 dX7_extensionsByDownSets_41 (by decide) ?_
    obtain ⟨g3, h⟩ := h
    refine am_last hz1 hn_wp hk_wp g3 dX7_extensionsByDownSets_42 ?_
    refine am_iinc (v := v4 + 1) (lv' := [(4, .int (v4 + 1)), (0, .ref ((zB z).size + 56)), (2, .int v2), (3, .int v3)]) hz1 dX7_extensionsByDownSets_43 3 rfl rfl rfl rfl ?_
    refine am_goto (tgt := 29) hz1 dX7_extensionsByDownSets_46 (by decide) ?_
    exact am_sub (lv' := [(0, .ref ((zB z).size + 56)), (2, .int v2), (3, .int v3), (4, .int (v4 + 1))]) [1, 2, 3, 0] rfl h
set_option maxRecDepth 100000 in
set_option maxHeartbeats 4000000 in
theorem b_X7_extensionsByDownSets_59 {z : amZ} {ce sl mc ms : Nat} {post : amP} {G : amG} {I : amI} {L : amL} (hz : Go z cX7_extensionsByDownSets RX7 6 (some .long) 2 mc ms post) (hce : ce ≤ mc ∧ sl ≤ ms) (hG : Lay G) {wp : Nat} (hr_wp : gR G 56 4 = some wp) (hn_wp : wp < gN G) (hk_wp : gK G wp = 52) {v2 : Int32} {v3 : Int32} {v4 : Int32} (h : ((v3 ≤ v4) → vp_in (v3 - (1 : Int32)) (gL G wp) ∧ post (some (.long (L wp (v3 - (1 : Int32)).toNatClampNeg))) G I L) ∧ ((¬ v3 ≤ v4) → Wx z ce sl 68 [(0, .ref ((zB z).size + 56)), (2, .int v2), (3, .int v3), (4, .int v4), (5, .int 0)] [] G I L)) : Wx z ce sl 59 [(0, .ref ((zB z).size + 56)), (2, .int v2), (3, .int v3), (4, .int v4)] [] G I L := by
  have hz1 := hz.1
  refine am_iload hz1 dX7_extensionsByDownSets_59 3 rfl ?_
  refine am_iload_n hz1 dX7_extensionsByDownSets_61 2 rfl rfl ?_
  refine am_icmp_ge (tgt := 145) hz1 dX7_extensionsByDownSets_62 (by decide) (fun c1 => ?_) (fun c1 => ?_)
  · replace h := h.1 c1
    refine am_aload_n hz1 dX7_extensionsByDownSets_145 0 rfl rfl ?_
    refine am_getR hz1 fl_X7_22 (ln_56 hG) (lk_56 hG) hr_wp rfl dX7_extensionsByDownSets_146 ?_
    refine am_iload_n hz1 dX7_extensionsByDownSets_149 2 rfl rfl ?_
    refine am_iconst (v := 1) hz1 dX7_extensionsByDownSets_150 (by decide) ?_
    refine am_isub hz1 dX7_extensionsByDownSets_151 ?_
    obtain ⟨g2, h⟩ := h
    refine am_lald hz1 hn_wp hk_wp g2 dX7_extensionsByDownSets_152 ?_
    exact am_widen hce.1 hce.2 (am_lreturn hz dX7_extensionsByDownSets_153 h)
  · replace h := h.2 c1
    refine am_iconst (v := 0) hz1 dX7_extensionsByDownSets_65 (by decide) ?_
    refine am_istore (lv' := [(5, .int 0), (0, .ref ((zB z).size + 56)), (2, .int v2), (3, .int v3), (4, .int v4)]) hz1 dX7_extensionsByDownSets_66 rfl rfl ?_
    exact am_sub (lv' := [(0, .ref ((zB z).size + 56)), (2, .int v2), (3, .int v3), (4, .int v4), (5, .int 0)]) [1, 2, 3, 4, 0] rfl h
set_option maxRecDepth 100000 in
set_option maxHeartbeats 4000000 in
theorem b_X7_extensionsByDownSets_68 {z : amZ} {ce sl mc ms : Nat} {post : amP} {G : amG} {I : amI} {L : amL} (hz : Go z cX7_extensionsByDownSets RX7 6 (some .long) 2 mc ms post) (hce : ce ≤ mc ∧ sl ≤ ms) (hG : Lay G) {wp : Nat} (hr_wp : gR G 56 4 = some wp) (hn_wp : wp < gN G) (hk_wp : gK G wp = 52) {v2 : Int32} {v3 : Int32} {v4 : Int32} {v5 : Int32} (h : ((v2 ≤ v5) → Wx z ce sl 59 [(0, .ref ((zB z).size + 56)), (2, .int v2), (3, .int v3), (4, .int (v4 + 1))] [] G I L) ∧ ((¬ v2 ≤ v5) → vp_in v4 (gL G wp) ∧ (((L wp v4.toNatClampNeg) = (0 : Int64)) → Wx z ce sl 59 [(0, .ref ((zB z).size + 56)), (2, .int v2), (3, .int v3), (4, .int (v4 + 1))] [] G I L) ∧ ((¬ (L wp v4.toNatClampNeg) = (0 : Int64)) → ((¬ ((v4 >>> (v5 &&& 31)) &&& (1 : Int32)) = 0) → Wx z ce sl 68 [(0, .ref ((zB z).size + 56)), (2, .int v2), (3, .int v3), (4, .int v4), (5, .int (v5 + 1))] [] G I L) ∧ ((((v4 >>> (v5 &&& 31)) &&& (1 : Int32)) = 0) → vp_in v5 16 ∧ ((¬ ((I 59 v5.toNatClampNeg) &&& (v4 ^^^ (-1 : Int32))) = 0) → Wx z ce sl 68 [(0, .ref ((zB z).size + 56)), (2, .int v2), (3, .int v3), (4, .int v4), (5, .int (v5 + 1))] [] G I L) ∧ ((((I 59 v5.toNatClampNeg) &&& (v4 ^^^ (-1 : Int32))) = 0) → vp_in (v4 ||| ((1 : Int32) <<< (v5 &&& 31))) (gL G wp) ∧ vp_in v4 (gL G wp) ∧ vp_in (v4 ||| ((1 : Int32) <<< (v5 &&& 31))) (gL G wp) ∧ Wx z ce sl 68 [(0, .ref ((zB z).size + 56)), (2, .int v2), (3, .int v3), (4, .int v4), (5, .int (v5 + 1))] [] G I (setL L wp (vp_updL (L wp) (v4 ||| ((1 : Int32) <<< (v5 &&& 31))).toNatClampNeg ((L wp (v4 ||| ((1 : Int32) <<< (v5 &&& 31))).toNatClampNeg) + (L wp v4.toNatClampNeg))))))))) : Wx z ce sl 68 [(0, .ref ((zB z).size + 56)), (2, .int v2), (3, .int v3), (4, .int v4), (5, .int v5)] [] G I L := by
  have hz1 := hz.1
  refine am_iload hz1 dX7_extensionsByDownSets_68 4 rfl ?_
  refine am_iload_n hz1 dX7_extensionsByDownSets_70 1 rfl rfl ?_
  refine am_icmp_ge (tgt := 139) hz1 dX7_extensionsByDownSets_71 (by decide) (fun c1 => ?_) (fun c1 => ?_)
  · replace h := h.1 c1
    refine am_iinc (v := v4 + 1) (lv' := [(4, .int (v4 + 1)), (0, .ref ((zB z).size + 56)), (2, .int v2), (3, .int v3), (5, .int v5)]) hz1 dX7_extensionsByDownSets_139 3 rfl rfl rfl rfl ?_
    refine am_goto (tgt := 59) hz1 dX7_extensionsByDownSets_142 (by decide) ?_
    exact am_sub (lv' := [(0, .ref ((zB z).size + 56)), (2, .int v2), (3, .int v3), (4, .int (v4 + 1))]) [1, 2, 3, 0] rfl h
  · replace h := h.2 c1
    refine am_aload_n hz1 dX7_extensionsByDownSets_74 0 rfl rfl ?_
    refine am_getR hz1 fl_X7_22 (ln_56 hG) (lk_56 hG) hr_wp rfl dX7_extensionsByDownSets_75 ?_
    refine am_iload hz1 dX7_extensionsByDownSets_78 3 rfl ?_
    obtain ⟨g2, h⟩ := h
    refine am_lald hz1 hn_wp hk_wp g2 dX7_extensionsByDownSets_80 ?_
    refine am_lconst (v := 0) hz1 dX7_extensionsByDownSets_81 (by decide) ?_
    refine am_lif_eq (tgt := 139) hz1 dX7_extensionsByDownSets_82 dX7_extensionsByDownSets_83 (by decide) (fun c3 => ?_) (fun c3 => ?_)
    · replace h := h.1 c3
      refine am_iinc (v := v4 + 1) (lv' := [(4, .int (v4 + 1)), (0, .ref ((zB z).size + 56)), (2, .int v2), (3, .int v3), (5, .int v5)]) hz1 dX7_extensionsByDownSets_139 3 rfl rfl rfl rfl ?_
      refine am_goto (tgt := 59) hz1 dX7_extensionsByDownSets_142 (by decide) ?_
      exact am_sub (lv' := [(0, .ref ((zB z).size + 56)), (2, .int v2), (3, .int v3), (4, .int (v4 + 1))]) [1, 2, 3, 0] rfl h
    · replace h := h.2 c3
      refine am_iload hz1 dX7_extensionsByDownSets_86 3 rfl ?_
      refine am_iload hz1 dX7_extensionsByDownSets_88 4 rfl ?_
      refine am_ishr hz1 dX7_extensionsByDownSets_90 ?_
      refine am_iconst (v := 1) hz1 dX7_extensionsByDownSets_91 (by decide) ?_
      refine am_iand hz1 dX7_extensionsByDownSets_92 ?_
      refine am_if_ne (tgt := 133) hz1 dX7_extensionsByDownSets_93 (by decide) (fun c4 => ?_) (fun c4 => ?_)
      · replace h := h.1 c4
        refine am_iinc (v := v5 + 1) (lv' := [(5, .int (v5 + 1)), (0, .ref ((zB z).size + 56)), (2, .int v2), (3, .int v3), (4, .int v4)]) hz1 dX7_extensionsByDownSets_133 4 rfl rfl rfl rfl ?_
        refine am_goto (tgt := 68) hz1 dX7_extensionsByDownSets_136 (by decide) ?_
        exact am_sub (lv' := [(0, .ref ((zB z).size + 56)), (2, .int v2), (3, .int v3), (4, .int v4), (5, .int (v5 + 1))]) [1, 2, 3, 4, 0] rfl h
      · replace h := h.2 c4
        refine am_aload_n hz1 dX7_extensionsByDownSets_96 0 rfl rfl ?_
        refine am_getR hz1 fl_X7_18 (ln_56 hG) (lk_56 hG) (lr_56_3 hG) rfl dX7_extensionsByDownSets_97 ?_
        refine am_iload hz1 dX7_extensionsByDownSets_100 4 rfl ?_
        obtain ⟨g5, h⟩ := h
        refine am_iald hz1 (ln_59 hG) (lk_59 hG) (by rw [(ll_59 hG)]; exact g5) dX7_extensionsByDownSets_102 ?_
        refine am_iload hz1 dX7_extensionsByDownSets_103 3 rfl ?_
        refine am_iconst (v := (-1)) hz1 dX7_extensionsByDownSets_105 (by decide) ?_
        refine am_ixor hz1 dX7_extensionsByDownSets_106 ?_
        refine am_iand hz1 dX7_extensionsByDownSets_107 ?_
        refine am_if_ne (tgt := 133) hz1 dX7_extensionsByDownSets_108 (by decide) (fun c6 => ?_) (fun c6 => ?_)
        · replace h := h.1 c6
          refine am_iinc (v := v5 + 1) (lv' := [(5, .int (v5 + 1)), (0, .ref ((zB z).size + 56)), (2, .int v2), (3, .int v3), (4, .int v4)]) hz1 dX7_extensionsByDownSets_133 4 rfl rfl rfl rfl ?_
          refine am_goto (tgt := 68) hz1 dX7_extensionsByDownSets_136 (by decide) ?_
          exact am_sub (lv' := [(0, .ref ((zB z).size + 56)), (2, .int v2), (3, .int v3), (4, .int v4), (5, .int (v5 + 1))]) [1, 2, 3, 4, 0] rfl h
        · replace h := h.2 c6
          refine am_aload_n hz1 dX7_extensionsByDownSets_111 0 rfl rfl ?_
          refine am_getR hz1 fl_X7_22 (ln_56 hG) (lk_56 hG) hr_wp rfl dX7_extensionsByDownSets_112 ?_
          refine am_iload hz1 dX7_extensionsByDownSets_115 3 rfl ?_
          refine am_iconst (v := 1) hz1 dX7_extensionsByDownSets_117 (by decide) ?_
          refine am_iload hz1 dX7_extensionsByDownSets_118 4 rfl ?_
          refine am_ishl hz1 dX7_extensionsByDownSets_120 ?_
          refine am_ior hz1 dX7_extensionsByDownSets_121 ?_
          refine am_dup2 hz1 dX7_extensionsByDownSets_122 rfl rfl ?_
          obtain ⟨g7, h⟩ := h
          refine am_lald hz1 hn_wp hk_wp g7 dX7_extensionsByDownSets_123 ?_
          refine am_aload_n hz1 dX7_extensionsByDownSets_124 0 rfl rfl ?_
          refine am_getR hz1 fl_X7_22 (ln_56 hG) (lk_56 hG) hr_wp rfl dX7_extensionsByDownSets_125 ?_
          refine am_iload hz1 dX7_extensionsByDownSets_128 3 rfl ?_
          obtain ⟨g8, h⟩ := h
          refine am_lald hz1 hn_wp hk_wp g8 dX7_extensionsByDownSets_130 ?_
          refine am_ladd hz1 dX7_extensionsByDownSets_131 ?_
          obtain ⟨g9, h⟩ := h
          refine am_last hz1 hn_wp hk_wp g9 dX7_extensionsByDownSets_132 ?_
          refine am_iinc (v := v5 + 1) (lv' := [(5, .int (v5 + 1)), (0, .ref ((zB z).size + 56)), (2, .int v2), (3, .int v3), (4, .int v4)]) hz1 dX7_extensionsByDownSets_133 4 rfl rfl rfl rfl ?_
          refine am_goto (tgt := 68) hz1 dX7_extensionsByDownSets_136 (by decide) ?_
          exact am_sub (lv' := [(0, .ref ((zB z).size + 56)), (2, .int v2), (3, .int v3), (4, .int v4), (5, .int (v5 + 1))]) [1, 2, 3, 4, 0] rfl h
set_option maxRecDepth 100000 in
set_option maxHeartbeats 4000000 in
theorem c_X7_extensionsByDownSets {l : Launch} {D : va_G} {B : Heap} {G : amG} {I : amI} {L : amL} {n : Nat} {A : Nat → Int32} {s : Int32} {wp len : Nat} (hG : Lay G) (hO : OI I 3 n A) (hs : ∀ i, i < 32 → bt s i = true → i < n) (hw : WY G wp len) (hl : wO len) :
    Mx l D B yX7_extensionsByDownSets cX7_extensionsByDownSets 6 (some .long) 2 (2 * (wM len (ct (bt s) n) - len)) (2 * (wM len (ct (bt s) n) - len)) [.ref (B.size + 56), .int s] G I L (fun r G1 I1 L1 => r = some (.long (eF n A (ct (bt s) n) (bt s))) ∧ XF G I L wp (wM len (ct (bt s) n)) G1 I1 L1) := by
  have h16 := hO.2.2.1
  have hn := hO.1
  have hP := hO.2.2.2.2.2.1
  obtain ⟨hr, hnn, hk, hlen⟩ := hw
  refine Mx.of (by decide) rfl rfl (fun z e1 e2 e3 hz => ?_)
  subst e1; subst e2; subst e3
  have hm16 := Nat.le_trans (ct_le (bt s) n) h16
  have hnd : ∀ i, i < ct (bt s) n → ndG I s n i = bn (ct (bt s) n) (parA n A s) i := fun i hi => nd_bn hO hi
  have hPm : PO (ct (bt s) n) (parA n A s) := par_PO hP h16
  have hfin : eF n A (ct (bt s) n) (bt s) = exV (ct (bt s) n) (parA n A s) (2 ^ ct (bt s) n - 1) := by rw [exV_all]; exact eF_par h16
  have hll := wO_le hl
  have hwc := fun h => wM_c (len := len) (m := ct (bt s) n) hl h
  have hwm : wM len (ct (bt s) n) = if len < 2 ^ ct (bt s) n then 2 ^ ct (bt s) n else len := rfl
  rw [hfin] at hz
  generalize hm : ct (bt s) n = m at *
  generalize hA : parA n A s = A' at *
  generalize hmc : 2 * (wM len m - len) = mc at *
  have hp := p2_le hm16
  have hp1 : 1 ≤ 2 ^ m := Nat.one_le_two_pow
  have e1 : nI (2 ^ m) - 1 = nI (2 ^ m - 1) := by
    obtain ⟨j, hj⟩ : ∃ j, 2 ^ m = j + 1 := ⟨2 ^ m - 1, by omega⟩
    rw [hj, nI_pred, Nat.add_sub_cancel]
  have main : ∀ (ce sl : Nat) (G' : amG) (I' : amI) (L' : amL) (wp' : Nat), ce ≤ mc ∧ sl ≤ mc → Lay G' → gR G' 56 4 = some wp' → wp' < gN G' → gK G' wp' = 52 → 2 ^ m ≤ gL G' wp' → gL G' wp' ≤ 65536 → (∀ i, i < m → I' 59 i = bn m A' i) → (∀ f : Nat → Int64, XF G I L wp (wM len m) G' I' (setL L' wp' f)) → Wx z ce sl 26 [(0, .ref ((zB z).size + 56)), (2, .int (nI m)), (3, .int (nI (2 ^ m)))] [] G' I' L' := by
    intro ce sl G' I' L' wp' hce hG' hr' hn' hk' hl1 hl2 hI' hX
    refine b_X7_extensionsByDownSets_26 hz hce hG' hr' hn' hk' ?_
    have sweep : ∀ f : Nat → Int64, (∀ u, u < 2 ^ m → f u = fwV m A' 0 0 u) → Wx z ce sl 59 [(0, .ref ((zB z).size + 56)), (2, .int (nI m)), (3, .int (nI (2 ^ m))), (4, .int (nI 0))] [] G' I' (setL L' wp' f) := by
      refine for_up (P := fun t => ∀ f : Nat → Int64, (∀ u, u < 2 ^ m → f u = fwV m A' t 0 u) → Wx z ce sl 59 [(0, .ref ((zB z).size + 56)), (2, .int (nI m)), (3, .int (nI (2 ^ m))), (4, .int (nI t))] [] G' I' (setL L' wp' f)) (n := 2 ^ m) ?_ ?_ (Nat.zero_le _)
      · intro f hf
        refine b_X7_extensionsByDownSets_59 hz hce hG' hr' hn' hk' ⟨fun _ => ?_, fun w => absurd (nI_le (Nat.le_refl _) (by omega)) w⟩
        rw [e1, cl_nI (by omega), setL_s, hf (2 ^ m - 1) (by omega), fwV_t hPm hm16 (by omega) (by omega)]
        exact ⟨in_nI (by omega) (by omega), rfl, hX f⟩
      · intro t ht ih f hf
        refine b_X7_extensionsByDownSets_59 hz hce hG' hr' hn' hk' ⟨fun w => absurd w (nI_ge ht (by omega)), fun _ => ?_⟩
        have inner : ∀ f : Nat → Int64, (∀ u, u < 2 ^ m → f u = fwV m A' t 0 u) → Wx z ce sl 68 [(0, .ref ((zB z).size + 56)), (2, .int (nI m)), (3, .int (nI (2 ^ m))), (4, .int (nI t)), (5, .int (nI 0))] [] G' I' (setL L' wp' f) := by
          refine for_up (P := fun i => ∀ f : Nat → Int64, (∀ u, u < 2 ^ m → f u = fwV m A' t i u) → Wx z ce sl 68 [(0, .ref ((zB z).size + 56)), (2, .int (nI m)), (3, .int (nI (2 ^ m))), (4, .int (nI t)), (5, .int (nI i))] [] G' I' (setL L' wp' f)) (n := m) ?_ ?_ (Nat.zero_le _)
          · intro f hf
            refine b_X7_extensionsByDownSets_68 hz hce hG' hr' hn' hk' ⟨fun _ => ?_, fun w => absurd (nI_le (Nat.le_refl _) (by omega)) w⟩
            rw [nI_1]
            exact ih f (fun u hu => by rw [hf u hu, fwV_n])
          · intro i hi kh f hf
            refine b_X7_extensionsByDownSets_68 hz hce hG' hr' hn' hk' ⟨fun w => absurd w (nI_ge hi (by omega)), fun _ => ⟨in_nI (by omega) (by omega), ?_⟩⟩
            rw [cl_nI (n := t) (by omega), cl_nI (n := i) (by omega), setL_ss, setL_s, hf t ht, fwV_t hPm hm16 ht (Nat.le_refl _), b_bitz _ _ (show i < 32 by omega), bt_nI t i (by omega), hI' i hi, nI_1, nI_1]
            refine ⟨fun h0 => ih f (fun u hu => by rw [hf u hu, fwV_z h0]), fun h0 => ⟨fun hb => ?_, fun hb => ⟨in_nI (by omega) (by decide), fun hb2 => ?_, fun hb2 => ?_⟩⟩⟩
            · rw [Bool.not_eq_false] at hb
              exact kh f (fun u hu => by rw [hf u hu, fwV_s (Or.inl hb)])
            · exact kh f (fun u hu => by rw [hf u hu, fwV_s (Or.inr (decide_eq_false hb2))])
            · rw [xr_or hb (by omega) (by omega)]
              have hx := xr_in ht hi
              rw [cl_nI (n := t ^^^ 2 ^ i) (by omega)]
              refine ⟨in_nI (by omega) (by omega), in_nI (by omega) (by omega), in_nI (by omega) (by omega), kh _ (fun u hu => ?_)⟩
              rw [fwV_a hi hb (decide_eq_true hb2)]
              by_cases e : u = t ^^^ 2 ^ i
              · rw [if_pos e, e, updL_s, hf _ hx]
              · rw [if_neg e, updL_n e, hf u hu]
        exact inner f hf
    have clear : ∀ f : Nat → Int64, (∀ u, 1 ≤ u → u < 1 + 0 → f u = 0) → Wx z ce sl 29 [(0, .ref ((zB z).size + 56)), (2, .int (nI m)), (3, .int (nI (2 ^ m))), (4, .int (nI (1 + 0)))] [] G' I' (setL L' wp' f) := by
      refine for_up (P := fun t => ∀ f : Nat → Int64, (∀ u, 1 ≤ u → u < 1 + t → f u = 0) → Wx z ce sl 29 [(0, .ref ((zB z).size + 56)), (2, .int (nI m)), (3, .int (nI (2 ^ m))), (4, .int (nI (1 + t)))] [] G' I' (setL L' wp' f)) (n := 2 ^ m - 1) ?_ ?_ (Nat.zero_le _)
      · intro f hf
        refine b_X7_extensionsByDownSets_29 hz hce hG' hr' hn' hk' ⟨fun _ => ⟨in_nI (n := 0) (by omega) (by omega), ?_⟩, fun w => absurd (nI_le (by omega) (by omega)) w⟩
        rw [setL_ss, setL_s]
        refine sweep _ (fun u hu => ?_)
        rw [fwV_0]
        show vp_updL f 0 1 u = _
        by_cases e : u = 0
        · rw [if_pos e, e, updL_s]
        · rw [if_neg e, updL_n e, hf u (by omega) (by omega)]
      · intro t ht ih f hf
        refine b_X7_extensionsByDownSets_29 hz hce hG' hr' hn' hk' ⟨fun w => absurd w (nI_ge (by omega) (by omega)), fun _ => ⟨in_nI (by omega) (by omega), ?_⟩⟩
        rw [setL_ss, setL_s, cl_nI (n := 1 + t) (by omega), nI_1]
        refine ih _ (fun u h1 h2 => ?_)
        by_cases e : u = 1 + t
        · rw [e, updL_s]
        · rw [updL_n e, hf u h1 (by omega)]
    have := clear (L' wp') (fun u h1 h2 => by omega)
    rw [setL_id] at this
    exact this
  refine b_X7_extensionsByDownSets_0 hz ⟨Nat.zero_le _, Nat.zero_le _⟩ hG hr hnn hk ⟨hO.sz, ?_⟩
  rw [sz_eq hn h16, hm, p2 m hm16, hlen, show Int32.ofNat len = nI len from rfl, cl_nI (by omega)]
  have h85 := hG.1
  refine ⟨fun h => ?_, fun h => ⟨⟨nI_pos (by omega), ?_, ?_, ?_⟩, ?_⟩⟩
  · have hle : 2 ^ m ≤ len := (nI_leI (by omega) (by omega)).mp h
    have hwl : wM len m = len := by rw [hwm, if_neg (by omega)]
    refine main _ _ _ _ _ wp ⟨Nat.zero_le _, Nat.zero_le _⟩ hG hr hnn hk (by omega) (by omega) (fun i hi => by rw [setI_s]; exact hnd i hi) (fun f => ?_)
    exact ⟨hG, gX.rfl, fun q _ h => setI_n h, fun q _ _ h => setL_n h, wp, ⟨hr, hnn, hk, by rw [hwl]; exact hlen⟩, Or.inl rfl⟩
  · have := hwc (Nat.lt_of_not_le (fun q => h (nI_le q (by omega)))); omega
  · have := hwc (Nat.lt_of_not_le (fun q => h (nI_le q (by omega)))); omega
  · show 2 ^ m * 8 ≤ 536870912
    omega
  · have hlt : len < 2 ^ m := Nat.lt_of_not_le (fun q => h (nI_le q (by omega)))
    have hwl : wM len m = 2 ^ m := by rw [hwm, if_pos hlt]
    have hcc := hwc hlt
    have h56 : 56 < gN G := by omega
    have hne : gN G ≠ 59 := by omega
    have hG2 : Lay (setR (gNew G 52 (2 ^ m)) 56 (va_up (gR (gNew G 52 (2 ^ m)) 56) 4 (some (gN G)))) := Lay_ways (Lay_new hG)
    have hr2 : gR (setR (gNew G 52 (2 ^ m)) 56 (va_up (gR (gNew G 52 (2 ^ m)) 56) 4 (some (gN G)))) 56 4 = some (gN G) := by rw [setR_s, va_up, if_pos rfl]
    have hk2 : gK (setR (gNew G 52 (2 ^ m)) 56 (va_up (gR (gNew G 52 (2 ^ m)) 56) 4 (some (gN G)))) (gN G) = 52 := gNew_k (len := 2 ^ m)
    have hl2 : gL (setR (gNew G 52 (2 ^ m)) 56 (va_up (gR (gNew G 52 (2 ^ m)) 56) 4 (some (gN G)))) (gN G) = 2 ^ m := gNew_l (k := 52)
    refine main _ _ _ _ _ (gN G) ⟨by omega, by omega⟩ hG2 hr2 (Nat.lt_succ_self _) hk2 (Nat.le_of_eq hl2.symm) (by rw [hl2]; exact hp) (fun i hi => by rw [setI_n (Ne.symm hne), setI_s]; exact hnd i hi) (fun f => ?_)
    refine ⟨hG2, ⟨Nat.le_succ _, fun p hp => ⟨gNew_ok (len := 2 ^ m) hp, gNew_ol (k := 52) hp, fun k hk => ?_⟩⟩, fun q hq h => by rw [setI_n (by omega), setI_n h], fun q hq _ h => by rw [setL_n (by omega), setL_n (by omega)], gN G, ⟨hr2, Nat.lt_succ_self _, hk2, by rw [hwl]; exact hl2⟩, Or.inr (Nat.le_refl _)⟩
    by_cases e : p = 56
    · subst e
      rw [setR_s, va_up, if_neg (hk rfl), gNew_or h56]
    · rw [setR_g e, gNew_or hp]
