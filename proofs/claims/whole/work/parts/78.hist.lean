/-! THE HISTORY -/
theorem HS_n0 {G : amG} {h : Nat} (H : HS G h) : h < gN G := by have := H.2.1; omega
theorem HS_n1 {G : amG} {h : Nat} (H : HS G h) : h + 1 < gN G := by have := H.2.1; omega
theorem HS_n2 {G : amG} {h : Nat} (H : HS G h) : h + 2 < gN G := by have := H.2.1; omega
theorem HS_n3 {G : amG} {h : Nat} (H : HS G h) : h + 3 < gN G := by have := H.2.1; omega
theorem HS_n4 {G : amG} {h : Nat} (H : HS G h) : h + 4 < gN G := by have := H.2.1; omega
theorem HS_k0 {G : amG} {h : Nat} (H : HS G h) : gK G h = 8 := H.2.2.1
theorem HS_k1 {G : amG} {h : Nat} (H : HS G h) : gK G (h + 1) = 50 := H.2.2.2.1
theorem HS_k2 {G : amG} {h : Nat} (H : HS G h) : gK G (h + 2) = 52 := H.2.2.2.2.1
theorem HS_k3 {G : amG} {h : Nat} (H : HS G h) : gK G (h + 3) = 52 := H.2.2.2.2.2.1
theorem HS_k4 {G : amG} {h : Nat} (H : HS G h) : gK G (h + 4) = 50 := H.2.2.2.2.2.2.1
theorem HS_l1 {G : amG} {h : Nat} (H : HS G h) : gL G (h + 1) = 16 := H.2.2.2.2.2.2.2.1
theorem HS_l2 {G : amG} {h : Nat} (H : HS G h) : gL G (h + 2) = 1024 := H.2.2.2.2.2.2.2.2.1
theorem HS_l3 {G : amG} {h : Nat} (H : HS G h) : gL G (h + 3) = 16 := H.2.2.2.2.2.2.2.2.2.1
theorem HS_l4 {G : amG} {h : Nat} (H : HS G h) : gL G (h + 4) = 16 := H.2.2.2.2.2.2.2.2.2.2.1
theorem HS_r2 {G : amG} {h : Nat} (H : HS G h) : gR G h 2 = some (h + 1) := H.2.2.2.2.2.2.2.2.2.2.2.1
theorem HS_r3 {G : amG} {h : Nat} (H : HS G h) : gR G h 3 = some (h + 2) := H.2.2.2.2.2.2.2.2.2.2.2.2.1
theorem HS_r4 {G : amG} {h : Nat} (H : HS G h) : gR G h 4 = some (h + 3) := H.2.2.2.2.2.2.2.2.2.2.2.2.2.1
theorem HS_r5 {G : amG} {h : Nat} (H : HS G h) : gR G h 5 = some (h + 4) := H.2.2.2.2.2.2.2.2.2.2.2.2.2.2
theorem refs_62 : ∀ q ∈ refs0, q.1 ≠ 62 := by decide +kernel
theorem Lay_put {G : amG} {p k r : Nat} (h : Lay G) (hp : 85 ≤ p) : Lay (gPut G p k r) := ⟨h.1, h.2.1, h.2.2.1, fun q hq => by rw [gPut_ro (by have := (refs_lt q hq).1; omega)]; exact h.2.2.2 q hq⟩
theorem Lay_ring {G : amG} {f : Nat → Option Nat} (h : Lay G) : Lay (setR G 62 f) := ⟨h.1, h.2.1, h.2.2.1, fun q hq => by rw [setR_g (refs_62 q hq)]; exact h.2.2.2 q hq⟩
theorem Lay_arr {G : amG} {p k kd len : Nat} (h : Lay G) (hp : 85 ≤ p) : Lay (gArr G p k kd len) := Lay_put (Lay_new h) hp
def pC5 (o : Option Nat) (c : Nat) : Nat := match o with
  | none => c
  | some _ => 0
/-- a state that waits to be filled -/
def psP (B : Heap) (nx m : Nat) (G : amG) (I : amI) (L : amL) : amP := fun r G1 I1 L1 => ∃ h, r = some (.ref (B.size + h)) ∧ Lay G1 ∧ HS G1 h ∧ gR G1 62 nx = some h ∧ (∀ i, i ≠ nx → gR G1 62 i = gR G 62 i) ∧ (∀ p, p < gN G → gK G1 p = gK G p ∧ gL G1 p = gL G p ∧ (p ≠ 62 → ∀ k, gR G1 p k = gR G p k)) ∧ gN G ≤ gN G1 ∧ (gR G 62 nx = some h ∨ (gR G 62 nx = none ∧ gN G ≤ h)) ∧ (∀ q, q < gN G → q ≠ 61 → I1 q = I q) ∧ (∀ q, q < gN G → L1 q = L q) ∧ I1 61 1 = nI ((nx + 1) % 8) ∧ I1 61 2 = nI (if m = 8 then 8 else m + 1)
set_option maxRecDepth 100000 in
set_option maxHeartbeats 4000000 in
theorem b_X1_push_32 {z : amZ} {ce sl mc ms : Nat} {post : amP} {G : amG} {I : amI} {L : amL} (hz : Go z cX1_push RX1 2 (some (.object "OrderAlgebra$State")) 2 mc ms post) (hce : ce ≤ mc ∧ sl ≤ ms) (hG : Lay G) {hh : Nat}  (h : post (some (.ref ((zB z).size + hh))) G (setI (setI I 61 (upd (I 61) 1 (((I 61 1) + (1 : Int32)) - ((I 61 1) + (1 : Int32)) / (8 : Int32) * (8 : Int32)))) 61 (upd ((setI I 61 (upd (I 61) 1 (((I 61 1) + (1 : Int32)) - ((I 61 1) + (1 : Int32)) / (8 : Int32) * (8 : Int32)))) 61) 2 (if (8 : Int32) < (((setI I 61 (upd (I 61) 1 (((I 61 1) + (1 : Int32)) - ((I 61 1) + (1 : Int32)) / (8 : Int32) * (8 : Int32)))) 61 2) + (1 : Int32)) then (8 : Int32) else (((setI I 61 (upd (I 61) 1 (((I 61 1) + (1 : Int32)) - ((I 61 1) + (1 : Int32)) / (8 : Int32) * (8 : Int32)))) 61 2) + (1 : Int32))))) L) : Wx z ce sl 32 [(1, .ref ((zB z).size + hh)), (0, .ref ((zB z).size + 61))] [] G I L := by
  have hz1 := hz.1
  refine am_aload_n hz1 dX1_push_32 1 rfl rfl ?_
  refine am_aload_n hz1 dX1_push_33 1 rfl rfl ?_
  refine am_getI hz1 fl_X1_17 (ln_61 hG) (lk_61 hG) rfl dX1_push_34 ?_
  refine am_iconst (v := 1) hz1 dX1_push_37 (by decide) ?_
  refine am_iadd hz1 dX1_push_38 ?_
  refine am_bipush (v := 8) hz1 dX1_push_39 (by decide) ?_
  refine am_irem hz1 dX1_push_41 (by decide) ?_
  refine am_putI hz1 fl_X1_17 (ln_61 hG) (lk_61 hG) rfl rfl (fun _ => rfl) dX1_push_42 ?_
  refine am_aload_n hz1 dX1_push_45 1 rfl rfl ?_
  refine am_aload_n hz1 dX1_push_46 1 rfl rfl ?_
  refine am_getI hz1 fl_X1_22 (ln_61 hG) (lk_61 hG) rfl dX1_push_47 ?_
  refine am_iconst (v := 1) hz1 dX1_push_50 (by decide) ?_
  refine am_iadd hz1 dX1_push_51 ?_
  refine am_bipush (v := 8) hz1 dX1_push_52 (by decide) ?_
  refine am_mmin hz ct_X1_25 rfl hce (Nat.le_of_ble_eq_true rfl) dX1_push_54 ?_
  refine am_putI hz1 fl_X1_22 (ln_61 hG) (lk_61 hG) rfl rfl (fun _ => rfl) dX1_push_57 ?_
  refine am_aload_n hz1 dX1_push_60 0 rfl rfl ?_
  exact am_widen hce.1 hce.2 (am_areturn hz (Or.inr ⟨_, rfl⟩) dX1_push_61 h)
theorem push_I {I : amI} {nx m : Nat} (h1 : I 61 1 = nI nx) (hn : nx < 8) (h2 : I 61 2 = nI m) (h8 : m ≤ 8) : ∀ I1, I1 = (setI (setI I 61 (upd (I 61) 1 ((I 61 1 + (1 : Int32)) - (I 61 1 + (1 : Int32)) / (8 : Int32) * (8 : Int32)))) 61 (upd ((setI I 61 (upd (I 61) 1 ((I 61 1 + (1 : Int32)) - (I 61 1 + (1 : Int32)) / (8 : Int32) * (8 : Int32)))) 61) 2 (if (8 : Int32) < ((setI I 61 (upd (I 61) 1 ((I 61 1 + (1 : Int32)) - (I 61 1 + (1 : Int32)) / (8 : Int32) * (8 : Int32)))) 61 2) + (1 : Int32) then (8 : Int32) else ((setI I 61 (upd (I 61) 1 ((I 61 1 + (1 : Int32)) - (I 61 1 + (1 : Int32)) / (8 : Int32) * (8 : Int32)))) 61 2) + (1 : Int32)))) → I1 61 1 = nI ((nx + 1) % 8) ∧ I1 61 2 = nI (if m = 8 then 8 else m + 1) ∧ ∀ q, q ≠ 61 → I1 q = I q := by
  rintro _ rfl
  have e1 : (I 61 1 + 1) - (I 61 1 + 1) / (8 : Int32) * 8 = nI ((nx + 1) % 8) := by rw [h1, nI_1]; exact nI_rem (b := 8) (by omega) (by decide) (by decide)
  refine ⟨?_, ?_, fun q hq => by rw [setI_n hq, setI_n hq]⟩
  · rw [setI_s, upd_n (by decide), setI_s, upd_s, e1]
  · rw [setI_s, upd_s, setI_s, upd_n (by decide), h2, nI_1]
    by_cases q : m = 8
    · rw [if_pos q, if_pos (show (8 : Int32) < nI (m + 1) from nI_lt (a := 8) (by omega) (by omega))]; rfl
    · rw [if_neg q, if_neg (show ¬ (8 : Int32) < nI (m + 1) from nI_nlt (a := 8) (by omega) (by omega))]
set_option maxRecDepth 100000 in
set_option maxHeartbeats 4000000 in
theorem c_X1_pushS {l : Launch} {D : va_G} {B : Heap} {G : amG} {I : amI} {L : amL} {nx m h : Nat} (hG : Lay G) (h1 : I 61 1 = nI nx) (hn : nx < 8) (h2 : I 61 2 = nI m) (h8 : m ≤ 8) (hr : gR G 62 nx = some h) (hH : HS G h) : Mx l D B yX1_push cX1_push 2 (some (.object "OrderAlgebra$State")) 2 0 0 [.ref (B.size + 61)] G I L (psP B nx m G I L) := by
  refine Mx.of (by decide) rfl rfl (fun z e1 e2 e3 hz => ?_)
  subst e1; subst e2; subst e3
  have hz1 := hz.1
  refine am_aload_n hz1 dX1_push_0 0 rfl rfl ?_
  refine am_getR hz1 fl_X1_11 (ln_61 hG) (lk_61 hG) (lr_61_0 hG) rfl dX1_push_1 ?_
  refine am_aload_n hz1 dX1_push_4 0 rfl rfl ?_
  refine am_getI hz1 fl_X1_17 (ln_61 hG) (lk_61 hG) rfl dX1_push_5 ?_
  refine am_aald (r := h) hz1 (t := 4) (kd := 54) rfl (by decide) (ln_62 hG) (lk_62 hG) (by rw [ll_62 hG, h1]; exact in_nI hn (by decide)) (by rw [h1, cl_nI (by omega)]; exact hr) dX1_push_8 ?_
  refine am_astore_n (lv' := [(1, .ref ((zB z).size + h)), (0, .ref ((zB z).size + 61))]) hz1 dX1_push_9 rfl rfl rfl ?_
  refine am_aload_n hz1 dX1_push_10 0 rfl rfl ?_
  refine am_ifnn (tgt := 32) hz1 dX1_push_11 (by decide) ?_
  refine b_X1_push_32 hz ⟨Nat.le_refl _, Nat.le_refl _⟩ hG ?_
  obtain ⟨a, b, c⟩ := push_I h1 hn h2 h8 _ rfl
  exact ⟨h, rfl, hG, hH, hr, fun _ _ => rfl, fun _ _ => ⟨rfl, rfl, fun _ _ => rfl⟩, Nat.le_refl _, Or.inl hr, fun q _ hq => c q hq, fun _ _ => rfl, a, b⟩
theorem gArr_k0 {G : amG} {p k kd len : Nat} : gK (gArr G p k kd len) (gN G) = kd := gNew_k (len := len)
theorem gArr_l {G : amG} {p q k kd len : Nat} (h : q < gN G) : gL (gArr G p k kd len) q = gL G q := gNew_ol (k := kd) h
theorem gArr_l0 {G : amG} {p k kd len : Nat} : gL (gArr G p k kd len) (gN G) = len := gNew_l (k := kd)
/-- a new state's cells -/
def gS1 (G : amG) : amG := gArr (gNew G 8 0) (gN G) 2 50 16
def gS2 (G : amG) : amG := gArr (gS1 G) (gN G) 3 52 1024
def gS3 (G : amG) : amG := gArr (gS2 G) (gN G) 4 52 16
def gS4 (G : amG) : amG := gArr (gS3 G) (gN G) 5 50 16
theorem gS1_o {G : amG} {q : Nat} (h : q < gN G) : gK (gS1 G) q = gK G q ∧ gL (gS1 G) q = gL G q ∧ ∀ k, gR (gS1 G) q k = gR G q k := by
  have h1 : q < gN (gNew G 8 0) := Nat.lt_succ_of_lt h
  exact ⟨(gArr_k h1).trans (gNew_ok h), (gArr_l h1).trans (gNew_ol h), fun k => (gArr_ro (Nat.ne_of_lt h) h1).trans (gNew_or h k)⟩
theorem gS2_o {G : amG} {q : Nat} (h : q < gN G) : gK (gS2 G) q = gK G q ∧ gL (gS2 G) q = gL G q ∧ ∀ k, gR (gS2 G) q k = gR G q k := by
  have h1 : q < gN (gS1 G) := show q < gN G + 2 by omega
  have := gS1_o h
  exact ⟨(gArr_k h1).trans this.1, (gArr_l h1).trans this.2.1, fun k => (gArr_ro (Nat.ne_of_lt h) h1).trans (this.2.2 k)⟩
theorem gS3_o {G : amG} {q : Nat} (h : q < gN G) : gK (gS3 G) q = gK G q ∧ gL (gS3 G) q = gL G q ∧ ∀ k, gR (gS3 G) q k = gR G q k := by
  have h1 : q < gN (gS2 G) := show q < gN G + 3 by omega
  have := gS2_o h
  exact ⟨(gArr_k h1).trans this.1, (gArr_l h1).trans this.2.1, fun k => (gArr_ro (Nat.ne_of_lt h) h1).trans (this.2.2 k)⟩
theorem gS4_o {G : amG} {q : Nat} (h : q < gN G) : gK (gS4 G) q = gK G q ∧ gL (gS4 G) q = gL G q ∧ ∀ k, gR (gS4 G) q k = gR G q k := by
  have h1 : q < gN (gS3 G) := show q < gN G + 4 by omega
  have := gS3_o h
  exact ⟨(gArr_k h1).trans this.1, (gArr_l h1).trans this.2.1, fun k => (gArr_ro (Nat.ne_of_lt h) h1).trans (this.2.2 k)⟩
theorem gX8_facts {G : amG} (hG : Lay G) : Lay (gX8 (gNew G 8 0) (gN G)) ∧ HS (gX8 (gNew G 8 0) (gN G)) (gN G) ∧ gN (gX8 (gNew G 8 0) (gN G)) = gN G + 5 ∧ ∀ p, p < gN G → gK (gX8 (gNew G 8 0) (gN G)) p = gK G p ∧ gL (gX8 (gNew G 8 0) (gN G)) p = gL G p ∧ ∀ k, gR (gX8 (gNew G 8 0) (gN G)) p k = gR G p k := by
  have h85 := hG.1
  have n1 : gN G < gN (gNew G 8 0) := Nat.lt_succ_self _
  have n2 : ∀ j, j < 2 → gN G + j < gN (gS1 G) := fun j hj => show gN G + j < gN G + 2 by omega
  have n3 : ∀ j, j < 3 → gN G + j < gN (gS2 G) := fun j hj => show gN G + j < gN G + 3 by omega
  have n4 : ∀ j, j < 4 → gN G + j < gN (gS3 G) := fun j hj => show gN G + j < gN G + 4 by omega
  have r1 : gR (gS1 G) (gN G) 2 = some (gN G + 1) := gArr_r
  have r2 : gR (gS2 G) (gN G) 3 = some (gN G + 2) := gArr_r
  have r3 : gR (gS3 G) (gN G) 4 = some (gN G + 3) := gArr_r
  have r4 : gR (gS4 G) (gN G) 5 = some (gN G + 4) := gArr_r
  refine ⟨Lay_arr (Lay_arr (Lay_arr (Lay_arr (Lay_new hG) h85) h85) h85) h85, ⟨h85, Nat.le_refl _, ?_, ?_, ?_, ?_, ?_, ?_, ?_, ?_, ?_, ?_, ?_, ?_, r4⟩, rfl, fun p hp => gS4_o hp⟩
  · exact (gArr_k (n4 0 (by decide))).trans ((gArr_k (n3 0 (by decide))).trans ((gArr_k (n2 0 (by decide))).trans ((gArr_k n1).trans gNew_k)))
  · exact (gArr_k (n4 1 (by decide))).trans ((gArr_k (n3 1 (by decide))).trans ((gArr_k (n2 1 (by decide))).trans (gArr_k0 (G := gNew G 8 0))))
  · exact (gArr_k (n4 2 (by decide))).trans ((gArr_k (n3 2 (by decide))).trans (gArr_k0 (G := gS1 G)))
  · exact (gArr_k (n4 3 (by decide))).trans (gArr_k0 (G := gS2 G))
  · exact gArr_k0 (G := gS3 G)
  · exact (gArr_l (n4 1 (by decide))).trans ((gArr_l (n3 1 (by decide))).trans ((gArr_l (n2 1 (by decide))).trans (gArr_l0 (G := gNew G 8 0))))
  · exact (gArr_l (n4 2 (by decide))).trans ((gArr_l (n3 2 (by decide))).trans (gArr_l0 (G := gS1 G)))
  · exact (gArr_l (n4 3 (by decide))).trans (gArr_l0 (G := gS2 G))
  · exact gArr_l0 (G := gS3 G)
  · exact (gArr_rn (by decide) (n4 0 (by decide))).trans ((gArr_rn (by decide) (n3 0 (by decide))).trans ((gArr_rn (by decide) (n2 0 (by decide))).trans r1))
  · exact (gArr_rn (by decide) (n4 0 (by decide))).trans ((gArr_rn (by decide) (n3 0 (by decide))).trans r2)
  · exact (gArr_rn (by decide) (n4 0 (by decide))).trans r3
theorem HS_ring {G : amG} {h : Nat} {f : Nat → Option Nat} (H : HS G h) : HS (setR G 62 f) h := by
  have h85 := H.1
  obtain ⟨a1, a2, a3, a4, a5, a6, a7, a8, a9, a10, a11, a12, a13, a14, a15⟩ := H
  exact ⟨a1, a2, a3, a4, a5, a6, a7, a8, a9, a10, a11, by rw [setR_g (by omega)]; exact a12, by rw [setR_g (by omega)]; exact a13, by rw [setR_g (by omega)]; exact a14, by rw [setR_g (by omega)]; exact a15⟩
set_option maxRecDepth 100000 in
set_option maxHeartbeats 4000000 in
theorem c_X1_pushN {l : Launch} {D : va_G} {B : Heap} {G : amG} {I : amI} {L : amL} {nx m : Nat} (hG : Lay G) (h1 : I 61 1 = nI nx) (hn : nx < 8) (h2 : I 61 2 = nI m) (h8 : m ≤ 8) (hr : gR G 62 nx = none) : Mx l D B yX1_push cX1_push 2 (some (.object "OrderAlgebra$State")) 2 5 1078 [.ref (B.size + 61)] G I L (psP B nx m G I L) := by
  have h85 := hG.1
  obtain ⟨f1, f2, f3, f4⟩ := gX8_facts hG
  refine Mx.of (by decide) rfl rfl (fun z e1 e2 e3 hz => ?_)
  subst e1; subst e2; subst e3
  have hz1 := hz.1
  refine am_aload_n hz1 dX1_push_0 0 rfl rfl ?_
  refine am_getR hz1 fl_X1_11 (ln_61 hG) (lk_61 hG) (lr_61_0 hG) rfl dX1_push_1 ?_
  refine am_aload_n hz1 dX1_push_4 0 rfl rfl ?_
  refine am_getI hz1 fl_X1_17 (ln_61 hG) (lk_61 hG) rfl dX1_push_5 ?_
  refine am_aaldN hz1 (t := 4) (kd := 54) rfl (by decide) (ln_62 hG) (lk_62 hG) (by rw [ll_62 hG, h1]; exact in_nI hn (by decide)) (by rw [h1, cl_nI (by omega)]; exact hr) dX1_push_8 ?_
  refine am_astore_nN (lv' := [(1, .null), (0, .ref ((zB z).size + 61))]) hz1 dX1_push_9 rfl rfl rfl ?_
  refine am_aload_nN hz1 dX1_push_10 0 rfl rfl ?_
  refine am_ifnnN hz1 dX1_push_11 ?_
  refine am_new hz1 cls_X8 (by decide) (tt_of 438 (by decide +kernel) rfl) (tt_of 701 (by decide +kernel) rfl) (tt_of 169 (by decide +kernel) rfl) (by rw [hz.2.1]; exact Nat.le_of_ble_eq_true rfl) (by rw [hz.2.1]; exact Nat.le_of_ble_eq_true rfl) dX1_push_14 ?_
  refine am_dup hz1 dX1_push_17 rfl ?_
  refine am_callIN hz1 ci_X1_21 [] [.ref ((zB z).size + gN G)] (c_X8_init (G := gNew G 8 0) (p := gN G) (Nat.lt_succ_self _) gNew_k) rfl rfl (hz.fr (d := 1) rfl) (hz.lo (d := 1) rfl) (by rw [hz.2.1]; exact ⟨Nat.le_of_ble_eq_true rfl, Nat.le_of_ble_eq_true rfl⟩) (Nat.le_of_ble_eq_true rfl) dX1_push_18 (fun ro G1 I1 L1 ⟨a1, a2, a3, a4⟩ => ?_)
  have hI : ∀ q, q < gN G → I1 q = I q := fun q hq => by rw [a3]; simp only [iX8, zI]; rw [setI_n (by show q ≠ gN G + 1 + 3; omega), setI_n (by show q ≠ gN G + 1 + 2; omega), setI_n (by show q ≠ gN G + 1 + 1; omega), setI_n (by show q ≠ gN G + 1; omega), setI_n (by omega)]
  have hL : ∀ q, q < gN G → L1 q = L q := fun q hq => by rw [a4]; simp only [lX8, zL0]; rw [setL_n (by show q ≠ gN G + 1 + 3; omega), setL_n (by show q ≠ gN G + 1 + 2; omega), setL_n (by show q ≠ gN G + 1 + 1; omega), setL_n (by show q ≠ gN G + 1; omega), setL_n (by omega)]
  rw [← a2] at f1 f2 f3 f4
  subst a1
  have g1 : I1 61 1 = nI nx := by rw [hI 61 (by omega), h1]
  have g2 : I1 61 2 = nI m := by rw [hI 61 (by omega), h2]
  refine am_astore_n (lv' := [(1, .ref ((zB z).size + gN G)), (0, .ref ((zB z).size + 61))]) hz1 dX1_push_21 rfl rfl rfl ?_
  refine am_aload_n hz1 dX1_push_22 1 rfl rfl ?_
  refine am_getR hz1 fl_X1_11 (ln_61 f1) (lk_61 f1) (lr_61_0 f1) rfl dX1_push_23 ?_
  refine am_aload_n hz1 dX1_push_26 1 rfl rfl ?_
  refine am_getI hz1 fl_X1_17 (ln_61 f1) (lk_61 f1) rfl dX1_push_27 ?_
  refine am_aload_n hz1 dX1_push_30 0 rfl rfl ?_
  refine am_aast (t := 4) (kd := 54) (r := gN G) hz1 rfl (by decide) cls_X8 (ln_62 f1) (lk_62 f1) (by rw [ll_62 f1, g1]; exact in_nI hn (by decide)) (HS_n0 f2) (HS_k0 f2) dX1_push_31 ?_
  rw [g1, cl_nI (by omega)]
  refine b_X1_push_32 hz ⟨Nat.le_of_ble_eq_true rfl, Nat.le_of_ble_eq_true rfl⟩ (Lay_ring f1) ?_
  obtain ⟨a, b, c⟩ := push_I g1 hn g2 h8 _ rfl
  refine ⟨gN G, rfl, Lay_ring f1, HS_ring f2, by rw [setR_s]; exact if_pos rfl, fun i hi => by rw [setR_s]; exact (if_neg hi).trans ((f4 62 (by omega)).2.2 i), fun p hp => ⟨(f4 p hp).1, (f4 p hp).2.1, fun h62 k => by rw [setR_g h62]; exact (f4 p hp).2.2 k⟩, by show gN G ≤ gN G1; omega, Or.inr ⟨hr, Nat.le_refl _⟩, fun q hq h61 => by rw [c q h61, hI q hq], fun q hq => hL q hq, a, b⟩
