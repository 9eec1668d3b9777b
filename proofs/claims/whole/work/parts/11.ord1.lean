/-! THE ORDER'S QUESTIONS: has, isBelow, atMost, from, upTo, between, all -/
def szOk (I : amI) (o : Nat) : Prop := ∃ n : Nat, 1 ≤ n ∧ n ≤ 16 ∧ I o 0 = nI n
def q_has (I : amI) (o : Nat) (a : Int32) : Bool := decide (0 ≤ a) && decide (a < I o 0)
def q_isBelow (I : amI) (o : Nat) (a b : Int32) : Bool := q_has I o a && q_has I o b && decide ((I (o + 1) a.toNatClampNeg >>> (b &&& 31)) &&& 1 = 1)
def q_atMost (I : amI) (o : Nat) (a b : Int32) : Bool := q_has I o a && (decide (a = b) || q_isBelow I o a b)
def q_from (I : amI) (o : Nat) (a : Int32) : Int32 := if q_has I o a = true then I (o + 1) a.toNatClampNeg ||| ((1 : Int32) <<< (a &&& 31)) else 0
def q_upTo (I : amI) (o : Nat) (a : Int32) : Int32 := if q_has I o a = true then I (o + 2) a.toNatClampNeg ||| ((1 : Int32) <<< (a &&& 31)) else 0
def q_between (I : amI) (o : Nat) (a b : Int32) : Int32 := q_from I o a &&& q_upTo I o b
def q_all (I : amI) (o : Nat) : Int32 := ((1 : Int32) <<< (I o 0 &&& 31)) - 1
/-- an index of the order is one of its rows -/
theorem q_has_in {I : amI} {o : Nat} {a : Int32} (hs : szOk I o) (h : q_has I o a = true) : vp_in a 16 := by
  obtain ⟨n, h1, h2, h3⟩ := hs
  simp only [q_has, Bool.and_eq_true, decide_eq_true_eq] at h
  obtain ⟨ha, hb⟩ := h
  rw [h3] at hb
  rw [vp_in_iff]
  rw [Int32.le_iff_toInt_le] at ha
  rw [Int32.lt_iff_toInt_lt, nI_toInt (by omega)] at hb
  simp at ha
  omega
set_option maxRecDepth 100000 in
set_option maxHeartbeats 4000000 in
theorem b_X4_has_0 {z : amZ} {post : amP} {G : amG} {I : amI} {L : amL} (hz : Go z cX4_has RX4 2 (some .boolean) 0 0 0 post) (hG : Lay G) {o : Nat} (ho : isO o) {v1 : Int32} (h : ((v1 < 0) → post (some (.int 0)) G I L) ∧ ((¬ v1 < 0) → (((I o 0) ≤ v1) → post (some (.int 0)) G I L) ∧ ((¬ (I o 0) ≤ v1) → post (some (.int 1)) G I L))) : Wx z 0 0 0 [(0, .ref ((zB z).size + o)), (1, .int v1)] [] G I L := by
  have hz1 := hz.1
  refine am_iload_n hz1 dX4_has_0 1 rfl rfl ?_
  refine am_if_lt (tgt := 16) hz1 dX4_has_1 (by decide) (fun c1 => ?_) (fun c1 => ?_)
  · replace h := h.1 c1
    refine am_iconst (v := 0) hz1 dX4_has_16 (by decide) ?_
    exact am_zreturn hz (by decide) dX4_has_17 h
  · replace h := h.2 c1
    refine am_iload_n hz1 dX4_has_4 1 rfl rfl ?_
    refine am_aload_n hz1 dX4_has_5 0 rfl rfl ?_
    refine am_getI hz1 fl_X4_9 (oN hG ho) (oK hG ho) rfl dX4_has_6 ?_
    refine am_icmp_ge (tgt := 16) hz1 dX4_has_9 (by decide) (fun c2 => ?_) (fun c2 => ?_)
    · replace h := h.1 c2
      refine am_iconst (v := 0) hz1 dX4_has_16 (by decide) ?_
      exact am_zreturn hz (by decide) dX4_has_17 h
    · replace h := h.2 c2
      refine am_iconst (v := 1) hz1 dX4_has_12 (by decide) ?_
      refine am_goto (tgt := 17) hz1 dX4_has_13 (by decide) ?_
      exact am_zreturn hz (by decide) dX4_has_17 h
set_option maxRecDepth 100000 in
set_option maxHeartbeats 4000000 in
theorem c_X4_has {l : Launch} {D : va_G} {B : Heap} {G : amG} {I : amI} {L : amL} {o : Nat} (hG : Lay G) (ho : isO o) (v1 : Int32)  : Fx l D B yX4_has cX4_has 2 (some .boolean) 0 [.ref (B.size + o), .int v1] G I L (some (.int (bI (q_has I o v1)))) I L := by
  refine Mx.of (by decide) rfl rfl (fun z e1 e2 e3 hz => ?_)
  subst e1; subst e2; subst e3
  refine b_X4_has_0 hz hG ho ?_
  refine ⟨fun h => ⟨?_, rfl, rfl, rfl⟩, fun h => ⟨fun g => ⟨?_, rfl, rfl, rfl⟩, fun g => ⟨?_, rfl, rfl, rfl⟩⟩⟩
  · have e : q_has I o v1 = false := by simp [q_has]; intro k; exact absurd (Int32.not_lt.mpr k) (not_not_intro h)
    rw [e]; rfl
  · have e : q_has I o v1 = false := by simp [q_has]; intro k; exact g
    rw [e]; rfl
  · have e : q_has I o v1 = true := by simp only [q_has, Bool.and_eq_true, decide_eq_true_eq]; exact ⟨Int32.not_lt.mp h, Int32.not_le.mp g⟩
    rw [e]; rfl
set_option maxRecDepth 100000 in
set_option maxHeartbeats 4000000 in
theorem b_X4_isBelow_0 {z : amZ} {post : amP} {G : amG} {I : amI} {L : amL} (hz : Go z cX4_isBelow RX4 3 (some .boolean) 1 0 0 post) (hG : Lay G) {o : Nat} (ho : isO o) {v1 : Int32} {v2 : Int32} (h : ((q_has I o v1 = false) → post (some (.int 0)) G I L) ∧ ((q_has I o v1 = true) → ((q_has I o v2 = false) → post (some (.int 0)) G I L) ∧ ((q_has I o v2 = true) → vp_in v1 16 ∧ ((¬ (((I (o + 1) v1.toNatClampNeg) >>> (v2 &&& 31)) &&& (1 : Int32)) = (1 : Int32)) → post (some (.int 0)) G I L) ∧ (((((I (o + 1) v1.toNatClampNeg) >>> (v2 &&& 31)) &&& (1 : Int32)) = (1 : Int32)) → post (some (.int 1)) G I L)))) : Wx z 0 0 0 [(0, .ref ((zB z).size + o)), (1, .int v1), (2, .int v2)] [] G I L := by
  have hz1 := hz.1
  refine am_aload_n hz1 dX4_isBelow_0 0 rfl rfl ?_
  refine am_iload_n hz1 dX4_isBelow_1 1 rfl rfl ?_
  refine am_cVf hz cv_X4_96 [.int v1] [] (c_X4_has hG ho v1 ) (oN hG ho) (oK hG ho) rfl rfl rfl ⟨Nat.le_refl _, Nat.le_refl _⟩ (Nat.le_of_ble_eq_true rfl) dX4_isBelow_2 ?_
  refine am_ifb_eq (tgt := 34) hz1 dX4_isBelow_5 (by decide) (fun c1 => ?_) (fun c1 => ?_)
  · replace h := h.1 c1
    refine am_iconst (v := 0) hz1 dX4_isBelow_34 (by decide) ?_
    exact am_zreturn hz (by decide) dX4_isBelow_35 h
  · replace h := h.2 c1
    refine am_aload_n hz1 dX4_isBelow_8 0 rfl rfl ?_
    refine am_iload_n hz1 dX4_isBelow_9 2 rfl rfl ?_
    refine am_cVf hz cv_X4_96 [.int v2] [] (c_X4_has hG ho v2 ) (oN hG ho) (oK hG ho) rfl rfl rfl ⟨Nat.le_refl _, Nat.le_refl _⟩ (Nat.le_of_ble_eq_true rfl) dX4_isBelow_10 ?_
    refine am_ifb_eq (tgt := 34) hz1 dX4_isBelow_13 (by decide) (fun c2 => ?_) (fun c2 => ?_)
    · replace h := h.1 c2
      refine am_iconst (v := 0) hz1 dX4_isBelow_34 (by decide) ?_
      exact am_zreturn hz (by decide) dX4_isBelow_35 h
    · replace h := h.2 c2
      refine am_aload_n hz1 dX4_isBelow_16 0 rfl rfl ?_
      refine am_getR hz1 fl_X4_15 (oN hG ho) (oK hG ho) (oR1 hG ho) rfl dX4_isBelow_17 ?_
      refine am_iload_n hz1 dX4_isBelow_20 1 rfl rfl ?_
      obtain ⟨g3, h⟩ := h
      refine am_iald hz1 (oN1 hG ho) (oK1 hG ho) (by rw [(oL1 hG ho)]; exact g3) dX4_isBelow_21 ?_
      refine am_iload_n hz1 dX4_isBelow_22 2 rfl rfl ?_
      refine am_ishr hz1 dX4_isBelow_23 ?_
      refine am_iconst (v := 1) hz1 dX4_isBelow_24 (by decide) ?_
      refine am_iand hz1 dX4_isBelow_25 ?_
      refine am_iconst (v := 1) hz1 dX4_isBelow_26 (by decide) ?_
      refine am_icmp_ne (tgt := 34) hz1 dX4_isBelow_27 (by decide) (fun c4 => ?_) (fun c4 => ?_)
      · replace h := h.1 c4
        refine am_iconst (v := 0) hz1 dX4_isBelow_34 (by decide) ?_
        exact am_zreturn hz (by decide) dX4_isBelow_35 h
      · replace h := h.2 c4
        refine am_iconst (v := 1) hz1 dX4_isBelow_30 (by decide) ?_
        refine am_goto (tgt := 35) hz1 dX4_isBelow_31 (by decide) ?_
        exact am_zreturn hz (by decide) dX4_isBelow_35 h
set_option maxRecDepth 100000 in
set_option maxHeartbeats 4000000 in
theorem c_X4_isBelow {l : Launch} {D : va_G} {B : Heap} {G : amG} {I : amI} {L : amL} {o : Nat} (hG : Lay G) (ho : isO o) (v1 : Int32) (v2 : Int32) (hs : szOk I o) : Fx l D B yX4_isBelow cX4_isBelow 3 (some .boolean) 1 [.ref (B.size + o), .int v1, .int v2] G I L (some (.int (bI (q_isBelow I o v1 v2)))) I L := by
  refine Mx.of (by decide) rfl rfl (fun z e1 e2 e3 hz => ?_)
  subst e1; subst e2; subst e3
  refine b_X4_isBelow_0 hz hG ho ?_
  refine ⟨fun h => ⟨?_, rfl, rfl, rfl⟩, fun h => ⟨fun g => ⟨?_, rfl, rfl, rfl⟩, fun g => ⟨q_has_in hs h, fun k => ⟨?_, rfl, rfl, rfl⟩, fun k => ⟨?_, rfl, rfl, rfl⟩⟩⟩⟩
  all_goals simp [q_isBelow, h, bI, *]
set_option maxRecDepth 100000 in
set_option maxHeartbeats 4000000 in
theorem b_X4_atMost_0 {z : amZ} {post : amP} {G : amG} {I : amI} {L : amL} (hz : Go z cX4_atMost RX4 3 (some .boolean) 2 0 0 post) (hG : Lay G) {o : Nat} (ho : isO o) {v1 : Int32} {v2 : Int32} (h : ((q_has I o v1 = false) → post (some (.int 0)) G I L) ∧ ((q_has I o v1 = true) → ((v1 = v2) → post (some (.int 1)) G I L) ∧ ((¬ v1 = v2) → (szOk I o) ∧ ((q_isBelow I o v1 v2 = false) → post (some (.int 0)) G I L) ∧ ((q_isBelow I o v1 v2 = true) → post (some (.int 1)) G I L)))) : Wx z 0 0 0 [(0, .ref ((zB z).size + o)), (1, .int v1), (2, .int v2)] [] G I L := by
  have hz1 := hz.1
  refine am_aload_n hz1 dX4_atMost_0 0 rfl rfl ?_
  refine am_iload_n hz1 dX4_atMost_1 1 rfl rfl ?_
  refine am_cVf hz cv_X4_96 [.int v1] [] (c_X4_has hG ho v1 ) (oN hG ho) (oK hG ho) rfl rfl rfl ⟨Nat.le_refl _, Nat.le_refl _⟩ (Nat.le_of_ble_eq_true rfl) dX4_atMost_2 ?_
  refine am_ifb_eq (tgt := 26) hz1 dX4_atMost_5 (by decide) (fun c1 => ?_) (fun c1 => ?_)
  · replace h := h.1 c1
    refine am_iconst (v := 0) hz1 dX4_atMost_26 (by decide) ?_
    exact am_zreturn hz (by decide) dX4_atMost_27 h
  · replace h := h.2 c1
    refine am_iload_n hz1 dX4_atMost_8 1 rfl rfl ?_
    refine am_iload_n hz1 dX4_atMost_9 2 rfl rfl ?_
    refine am_icmp_eq (tgt := 22) hz1 dX4_atMost_10 (by decide) (fun c2 => ?_) (fun c2 => ?_)
    · replace h := h.1 c2
      refine am_iconst (v := 1) hz1 dX4_atMost_22 (by decide) ?_
      refine am_goto (tgt := 27) hz1 dX4_atMost_23 (by decide) ?_
      exact am_zreturn hz (by decide) dX4_atMost_27 h
    · replace h := h.2 c2
      refine am_aload_n hz1 dX4_atMost_13 0 rfl rfl ?_
      refine am_iload_n hz1 dX4_atMost_14 1 rfl rfl ?_
      refine am_iload_n hz1 dX4_atMost_15 2 rfl rfl ?_
      obtain ⟨g3, h⟩ := h
      refine am_cVf hz cv_X4_100 [.int v1, .int v2] [] (c_X4_isBelow hG ho v1 v2 g3) (oN hG ho) (oK hG ho) rfl rfl rfl ⟨Nat.le_refl _, Nat.le_refl _⟩ (Nat.le_of_ble_eq_true rfl) dX4_atMost_16 ?_
      refine am_ifb_eq (tgt := 26) hz1 dX4_atMost_19 (by decide) (fun c4 => ?_) (fun c4 => ?_)
      · replace h := h.1 c4
        refine am_iconst (v := 0) hz1 dX4_atMost_26 (by decide) ?_
        exact am_zreturn hz (by decide) dX4_atMost_27 h
      · replace h := h.2 c4
        refine am_iconst (v := 1) hz1 dX4_atMost_22 (by decide) ?_
        refine am_goto (tgt := 27) hz1 dX4_atMost_23 (by decide) ?_
        exact am_zreturn hz (by decide) dX4_atMost_27 h
set_option maxRecDepth 100000 in
set_option maxHeartbeats 4000000 in
theorem c_X4_atMost {l : Launch} {D : va_G} {B : Heap} {G : amG} {I : amI} {L : amL} {o : Nat} (hG : Lay G) (ho : isO o) (v1 : Int32) (v2 : Int32) (hs : szOk I o) : Fx l D B yX4_atMost cX4_atMost 3 (some .boolean) 2 [.ref (B.size + o), .int v1, .int v2] G I L (some (.int (bI (q_atMost I o v1 v2)))) I L := by
  refine Mx.of (by decide) rfl rfl (fun z e1 e2 e3 hz => ?_)
  subst e1; subst e2; subst e3
  refine b_X4_atMost_0 hz hG ho ?_
  refine ⟨fun h => ⟨?_, rfl, rfl, rfl⟩, fun h => ⟨fun g => ⟨?_, rfl, rfl, rfl⟩, fun g => ⟨hs, fun k => ⟨?_, rfl, rfl, rfl⟩, fun k => ⟨?_, rfl, rfl, rfl⟩⟩⟩⟩
  all_goals simp_all [q_atMost, bI]
set_option maxRecDepth 100000 in
set_option maxHeartbeats 4000000 in
theorem b_X4_from_0 {z : amZ} {post : amP} {G : amG} {I : amI} {L : amL} (hz : Go z cX4_from RX4 2 (some .int) 1 0 0 post) (hG : Lay G) {o : Nat} (ho : isO o) {v1 : Int32} (h : ((q_has I o v1 = false) → post (some (.int 0)) G I L) ∧ ((q_has I o v1 = true) → vp_in v1 16 ∧ post (some (.int ((I (o + 1) v1.toNatClampNeg) ||| ((1 : Int32) <<< (v1 &&& 31))))) G I L)) : Wx z 0 0 0 [(0, .ref ((zB z).size + o)), (1, .int v1)] [] G I L := by
  have hz1 := hz.1
  refine am_aload_n hz1 dX4_from_0 0 rfl rfl ?_
  refine am_iload_n hz1 dX4_from_1 1 rfl rfl ?_
  refine am_cVf hz cv_X4_96 [.int v1] [] (c_X4_has hG ho v1 ) (oN hG ho) (oK hG ho) rfl rfl rfl ⟨Nat.le_refl _, Nat.le_refl _⟩ (Nat.le_of_ble_eq_true rfl) dX4_from_2 ?_
  refine am_ifb_eq (tgt := 21) hz1 dX4_from_5 (by decide) (fun c1 => ?_) (fun c1 => ?_)
  · replace h := h.1 c1
    refine am_iconst (v := 0) hz1 dX4_from_21 (by decide) ?_
    exact am_ireturn hz dX4_from_22 h
  · replace h := h.2 c1
    refine am_aload_n hz1 dX4_from_8 0 rfl rfl ?_
    refine am_getR hz1 fl_X4_15 (oN hG ho) (oK hG ho) (oR1 hG ho) rfl dX4_from_9 ?_
    refine am_iload_n hz1 dX4_from_12 1 rfl rfl ?_
    obtain ⟨g2, h⟩ := h
    refine am_iald hz1 (oN1 hG ho) (oK1 hG ho) (by rw [(oL1 hG ho)]; exact g2) dX4_from_13 ?_
    refine am_iconst (v := 1) hz1 dX4_from_14 (by decide) ?_
    refine am_iload_n hz1 dX4_from_15 1 rfl rfl ?_
    refine am_ishl hz1 dX4_from_16 ?_
    refine am_ior hz1 dX4_from_17 ?_
    refine am_goto (tgt := 22) hz1 dX4_from_18 (by decide) ?_
    exact am_ireturn hz dX4_from_22 h
set_option maxRecDepth 100000 in
set_option maxHeartbeats 4000000 in
theorem c_X4_from {l : Launch} {D : va_G} {B : Heap} {G : amG} {I : amI} {L : amL} {o : Nat} (hG : Lay G) (ho : isO o) (v1 : Int32) (hs : szOk I o) : Fx l D B yX4_from cX4_from 2 (some .int) 1 [.ref (B.size + o), .int v1] G I L (some (.int (q_from I o v1))) I L := by
  refine Mx.of (by decide) rfl rfl (fun z e1 e2 e3 hz => ?_)
  subst e1; subst e2; subst e3
  refine b_X4_from_0 hz hG ho ?_
  refine ⟨fun h => ⟨?_, rfl, rfl, rfl⟩, fun h => ⟨q_has_in hs h, ?_, rfl, rfl, rfl⟩⟩
  all_goals simp [q_from, h]
set_option maxRecDepth 100000 in
set_option maxHeartbeats 4000000 in
theorem b_X4_upTo_0 {z : amZ} {post : amP} {G : amG} {I : amI} {L : amL} (hz : Go z cX4_upTo RX4 2 (some .int) 1 0 0 post) (hG : Lay G) {o : Nat} (ho : isO o) {v1 : Int32} (h : ((q_has I o v1 = false) → post (some (.int 0)) G I L) ∧ ((q_has I o v1 = true) → vp_in v1 16 ∧ post (some (.int ((I (o + 2) v1.toNatClampNeg) ||| ((1 : Int32) <<< (v1 &&& 31))))) G I L)) : Wx z 0 0 0 [(0, .ref ((zB z).size + o)), (1, .int v1)] [] G I L := by
  have hz1 := hz.1
  refine am_aload_n hz1 dX4_upTo_0 0 rfl rfl ?_
  refine am_iload_n hz1 dX4_upTo_1 1 rfl rfl ?_
  refine am_cVf hz cv_X4_96 [.int v1] [] (c_X4_has hG ho v1 ) (oN hG ho) (oK hG ho) rfl rfl rfl ⟨Nat.le_refl _, Nat.le_refl _⟩ (Nat.le_of_ble_eq_true rfl) dX4_upTo_2 ?_
  refine am_ifb_eq (tgt := 21) hz1 dX4_upTo_5 (by decide) (fun c1 => ?_) (fun c1 => ?_)
  · replace h := h.1 c1
    refine am_iconst (v := 0) hz1 dX4_upTo_21 (by decide) ?_
    exact am_ireturn hz dX4_upTo_22 h
  · replace h := h.2 c1
    refine am_aload_n hz1 dX4_upTo_8 0 rfl rfl ?_
    refine am_getR hz1 fl_X4_19 (oN hG ho) (oK hG ho) (oR2 hG ho) rfl dX4_upTo_9 ?_
    refine am_iload_n hz1 dX4_upTo_12 1 rfl rfl ?_
    obtain ⟨g2, h⟩ := h
    refine am_iald hz1 (oN2 hG ho) (oK2 hG ho) (by rw [(oL2 hG ho)]; exact g2) dX4_upTo_13 ?_
    refine am_iconst (v := 1) hz1 dX4_upTo_14 (by decide) ?_
    refine am_iload_n hz1 dX4_upTo_15 1 rfl rfl ?_
    refine am_ishl hz1 dX4_upTo_16 ?_
    refine am_ior hz1 dX4_upTo_17 ?_
    refine am_goto (tgt := 22) hz1 dX4_upTo_18 (by decide) ?_
    exact am_ireturn hz dX4_upTo_22 h
set_option maxRecDepth 100000 in
set_option maxHeartbeats 4000000 in
theorem c_X4_upTo {l : Launch} {D : va_G} {B : Heap} {G : amG} {I : amI} {L : amL} {o : Nat} (hG : Lay G) (ho : isO o) (v1 : Int32) (hs : szOk I o) : Fx l D B yX4_upTo cX4_upTo 2 (some .int) 1 [.ref (B.size + o), .int v1] G I L (some (.int (q_upTo I o v1))) I L := by
  refine Mx.of (by decide) rfl rfl (fun z e1 e2 e3 hz => ?_)
  subst e1; subst e2; subst e3
  refine b_X4_upTo_0 hz hG ho ?_
  refine ⟨fun h => ⟨?_, rfl, rfl, rfl⟩, fun h => ⟨q_has_in hs h, ?_, rfl, rfl, rfl⟩⟩
  all_goals simp [q_upTo, h]
set_option maxRecDepth 100000 in
set_option maxHeartbeats 4000000 in
theorem b_X4_between_0 {z : amZ} {post : amP} {G : amG} {I : amI} {L : amL} (hz : Go z cX4_between RX4 3 (some .int) 2 0 0 post) (hG : Lay G) {o : Nat} (ho : isO o) {v1 : Int32} {v2 : Int32} (h : (szOk I o) ∧ (szOk I o) ∧ post (some (.int ((q_from I o v1) &&& (q_upTo I o v2)))) G I L) : Wx z 0 0 0 [(0, .ref ((zB z).size + o)), (1, .int v1), (2, .int v2)] [] G I L := by
  have hz1 := hz.1
  refine am_aload_n hz1 dX4_between_0 0 rfl rfl ?_
  refine am_iload_n hz1 dX4_between_1 1 rfl rfl ?_
  obtain ⟨g1, h⟩ := h
  refine am_cVf hz cv_X4_53 [.int v1] [] (c_X4_from hG ho v1 g1) (oN hG ho) (oK hG ho) rfl rfl rfl ⟨Nat.le_refl _, Nat.le_refl _⟩ (Nat.le_of_ble_eq_true rfl) dX4_between_2 ?_
  refine am_aload_n hz1 dX4_between_5 0 rfl rfl ?_
  refine am_iload_n hz1 dX4_between_6 2 rfl rfl ?_
  obtain ⟨g2, h⟩ := h
  refine am_cVf hz cv_X4_103 [.int v2] [.int (q_from I o v1)] (c_X4_upTo hG ho v2 g2) (oN hG ho) (oK hG ho) rfl rfl rfl ⟨Nat.le_refl _, Nat.le_refl _⟩ (Nat.le_of_ble_eq_true rfl) dX4_between_7 ?_
  refine am_iand hz1 dX4_between_10 ?_
  exact am_ireturn hz dX4_between_11 h
set_option maxRecDepth 100000 in
set_option maxHeartbeats 4000000 in
theorem c_X4_between {l : Launch} {D : va_G} {B : Heap} {G : amG} {I : amI} {L : amL} {o : Nat} (hG : Lay G) (ho : isO o) (v1 : Int32) (v2 : Int32) (hs : szOk I o) : Fx l D B yX4_between cX4_between 3 (some .int) 2 [.ref (B.size + o), .int v1, .int v2] G I L (some (.int (q_between I o v1 v2))) I L := by
  refine Mx.of (by decide) rfl rfl (fun z e1 e2 e3 hz => ?_)
  subst e1; subst e2; subst e3
  refine b_X4_between_0 hz hG ho ?_
  exact ⟨hs, hs, rfl, rfl, rfl, rfl⟩
set_option maxRecDepth 100000 in
set_option maxHeartbeats 4000000 in
theorem b_X4_all_0 {z : amZ} {post : amP} {G : amG} {I : amI} {L : amL} (hz : Go z cX4_all RX4 1 (some .int) 0 0 0 post) (hG : Lay G) {o : Nat} (ho : isO o)  (h : post (some (.int (((1 : Int32) <<< ((I o 0) &&& 31)) - (1 : Int32)))) G I L) : Wx z 0 0 0 [(0, .ref ((zB z).size + o))] [] G I L := by
  have hz1 := hz.1
  refine am_iconst (v := 1) hz1 dX4_all_0 (by decide) ?_
  refine am_aload_n hz1 dX4_all_1 0 rfl rfl ?_
  refine am_getI hz1 fl_X4_9 (oN hG ho) (oK hG ho) rfl dX4_all_2 ?_
  refine am_ishl hz1 dX4_all_5 ?_
  refine am_iconst (v := 1) hz1 dX4_all_6 (by decide) ?_
  refine am_isub hz1 dX4_all_7 ?_
  exact am_ireturn hz dX4_all_8 h
set_option maxRecDepth 100000 in
set_option maxHeartbeats 4000000 in
theorem c_X4_all {l : Launch} {D : va_G} {B : Heap} {G : amG} {I : amI} {L : amL} {o : Nat} (hG : Lay G) (ho : isO o)   : Fx l D B yX4_all cX4_all 1 (some .int) 0 [.ref (B.size + o)] G I L (some (.int (q_all I o))) I L := by
  refine Mx.of (by decide) rfl rfl (fun z e1 e2 e3 hz => ?_)
  subst e1; subst e2; subst e3
  refine b_X4_all_0 hz hG ho ?_
  exact ⟨rfl, rfl, rfl, rfl⟩
