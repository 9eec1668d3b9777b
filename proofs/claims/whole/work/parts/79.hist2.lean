/-! WHAT IS REMEMBERED -/
/-- the length of the row of ways -/
def wl (G : amG) : Nat := match gR G 56 4 with
  | some wp => gL G wp
  | none => 0
theorem wl_of {G : amG} {wp len : Nat} (h : WY G wp len) : wl G = len := by rw [wl, h.1]; exact h.2.2.2
theorem cpy0 {α : Type} {f g : Nat → α} {n : Int32} {N j : Nat} (hN : n.toNatClampNeg = N) (h : j < N) : va_cpy f g (0 : Int32).toNatClampNeg (0 : Int32).toNatClampNeg n.toNatClampNeg j = f j := by
  rw [pk_cpy_in (by show (0 : Int32).toNatClampNeg ≤ j; exact Nat.zero_le j) (by show j < (0 : Int32).toNatClampNeg + n.toNatClampNeg; rw [hN]; show j < 0 + N; omega)]
  show f (0 + (j - 0)) = f j
  rw [Nat.zero_add, Nat.sub_zero]
def rmP (s : St) (G : amG) (I : amI) (L : amL) : amP := fun r G1 I1 L1 => r = none ∧ CO (pushS s) G1 I1 L1 ∧ (∀ q, q < 85 → q ≠ 61 → I1 q = I q) ∧ (∀ q, q < 85 → L1 q = L q) ∧ wl G1 = wl G
/-- one row more can be come back to -/
theorem CR_push {s : St} {G G1 : amG} {I I1 I2 : amI} {L L1 L2 : amL} {nx h : Nat} (hG : Lay G) (n8 : nx < 8) (m8 : (sH s).1 ≤ 8) (hHS : ∀ i h, i < 8 → gR G 62 i = some h → HS G h) (hdis : ∀ i j h k, i < 8 → j < 8 → i ≠ j → gR G 62 i = some h → gR G 62 j = some k → h + 5 ≤ k ∨ k + 5 ≤ h) (hrow : ∀ j, j < (sH s).1 → ∃ h, gR G 62 ((nx + 8 - (sH s).1 + j) % 8) = some h ∧ HR I L h ((sH s).2 j))
    (a3 : HS G1 h) (a4 : gR G1 62 nx = some h) (a5 : ∀ i, i ≠ nx → gR G1 62 i = gR G 62 i) (a6 : ∀ p, p < gN G → gK G1 p = gK G p ∧ gL G1 p = gL G p ∧ (p ≠ 62 → ∀ k, gR G1 p k = gR G p k)) (a7 : gN G ≤ gN G1) (a8 : gR G 62 nx = some h ∨ (gR G 62 nx = none ∧ gN G ≤ h)) (a9 : ∀ q, q < gN G → q ≠ 61 → I1 q = I q) (a10 : ∀ q, q < gN G → L1 q = L q) (a11 : I1 61 1 = nI ((nx + 1) % 8)) (a12 : I1 61 2 = nI (if (sH s).1 = 8 then 8 else (sH s).1 + 1))
    (b1 : HR I2 L2 h (sC s)) (b2 : ∀ q, (q < h ∨ h + 5 ≤ q) → I2 q = I1 q ∧ L2 q = L1 q) : CR (pushH s) G1 I2 L2 := by
  have h85 := hG.1
  have hh := a3.1
  have hsep : ∀ i k, i < 8 → i ≠ nx → gR G 62 i = some k → k + 5 ≤ h ∨ h + 5 ≤ k := fun i k hi hne hk => by
    rcases a8 with e | ⟨e, e2⟩
    · rcases hdis i nx k h hi n8 hne hk e with q | q
      · exact Or.inl q
      · exact Or.inr q
    · have := (hHS i k hi hk).2.1; left; omega
  have hHS1 : ∀ i k, i < 8 → gR G1 62 i = some k → HS G1 k := fun i k hi hk => by
    by_cases e : i = nx
    · rw [e, a4] at hk; cases hk; exact a3
    · rw [a5 i e] at hk
      obtain ⟨c1, c2, c3, c4, c5, c6, c7, c8, c9, c10, c11, c12, c13, c14, c15⟩ := hHS i k hi hk
      exact ⟨c1, by omega, by rw [(a6 k (by omega)).1]; exact c3, by rw [(a6 (k + 1) (by omega)).1]; exact c4, by rw [(a6 (k + 2) (by omega)).1]; exact c5, by rw [(a6 (k + 3) (by omega)).1]; exact c6, by rw [(a6 (k + 4) (by omega)).1]; exact c7, by rw [(a6 (k + 1) (by omega)).2.1]; exact c8, by rw [(a6 (k + 2) (by omega)).2.1]; exact c9, by rw [(a6 (k + 3) (by omega)).2.1]; exact c10, by rw [(a6 (k + 4) (by omega)).2.1]; exact c11, by rw [(a6 k (by omega)).2.2 (by omega)]; exact c12, by rw [(a6 k (by omega)).2.2 (by omega)]; exact c13, by rw [(a6 k (by omega)).2.2 (by omega)]; exact c14, by rw [(a6 k (by omega)).2.2 (by omega)]; exact c15⟩
  have hdis1 : ∀ i j u k, i < 8 → j < 8 → i ≠ j → gR G1 62 i = some u → gR G1 62 j = some k → u + 5 ≤ k ∨ k + 5 ≤ u := fun i j u k hi hj hne hu hk => by
    by_cases e : i = nx
    · have ej : j ≠ nx := fun q => hne (e.trans q.symm)
      rw [e, a4] at hu; cases hu
      rw [a5 j ej] at hk
      rcases hsep j k hj ej hk with q | q
      · exact Or.inr q
      · exact Or.inl q
    · rw [a5 i e] at hu
      by_cases e2 : j = nx
      · rw [e2, a4] at hk; cases hk
        exact hsep i u hi e hu
      · rw [a5 j e2] at hk
        exact hdis i j u k hi hj hne hu hk
  have hold : ∀ i k r, i < 8 → i ≠ nx → gR G 62 i = some k → HR I L k r → HR I2 L2 k r := fun i k r hi hne hk hr => by
    have hk2 := hHS i k hi hk
    have h61 := hk2.1
    have hsp := hsep i k hi hne hk
    have hb := hk2.2.1
    exact HR_c hr (fun q q1 q2 => by rw [(b2 q (by omega)).1, a9 q (by omega) (by omega)]) (fun q q1 q2 => by rw [(b2 q (by omega)).2, a10 q (by omega)])
  have hI61 : I2 61 = I1 61 := (b2 61 (by omega)).1
  refine ⟨(nx + 1) % 8, Nat.mod_lt _ (by decide), by rw [hI61]; exact a11, ?_, ?_, hHS1, hdis1, ?_⟩
  · rw [hI61, a12, pushH]
    by_cases q : (sH s).1 = 8
    · rw [if_pos q, if_pos q]
    · rw [if_neg q, if_neg q]
  · rw [pushH]
    by_cases q : (sH s).1 = 8
    · rw [if_pos q]; exact Nat.le_refl _
    · rw [if_neg q]; show (sH s).1 + 1 ≤ 8; omega
  · intro j hj
    by_cases q : (sH s).1 = 8
    · rw [pushH, if_pos q] at hj ⊢
      have hj8 : j < 8 := hj
      show ∃ h, gR G1 62 (((nx + 1) % 8 + 8 - 8 + j) % 8) = some h ∧ HR I2 L2 h (if j = 7 then sC s else (sH s).2 (j + 1))
      by_cases e7 : j = 7
      · rw [if_pos e7]
        refine ⟨h, ?_, b1⟩
        rw [show ((nx + 1) % 8 + 8 - 8 + j) % 8 = nx by omega]; exact a4
      · rw [if_neg e7]
        obtain ⟨k, k1, k2⟩ := hrow (j + 1) (by omega)
        have ei : (nx + 8 - (sH s).1 + (j + 1)) % 8 = ((nx + 1) % 8 + 8 - 8 + j) % 8 := by omega
        rw [ei] at k1
        exact ⟨k, by rw [a5 _ (by omega)]; exact k1, hold _ k _ (Nat.mod_lt _ (by decide)) (by omega) k1 k2⟩
    · rw [pushH, if_neg q] at hj ⊢
      have hj8 : j < (sH s).1 + 1 := hj
      show ∃ h, gR G1 62 (((nx + 1) % 8 + 8 - ((sH s).1 + 1) + j) % 8) = some h ∧ HR I2 L2 h (if j = (sH s).1 then sC s else (sH s).2 j)
      by_cases e7 : j = (sH s).1
      · rw [if_pos e7]
        refine ⟨h, ?_, b1⟩
        rw [show ((nx + 1) % 8 + 8 - ((sH s).1 + 1) + j) % 8 = nx by omega]; exact a4
      · rw [if_neg e7]
        obtain ⟨k, k1, k2⟩ := hrow j (by omega)
        have ei : (nx + 8 - (sH s).1 + j) % 8 = ((nx + 1) % 8 + 8 - ((sH s).1 + 1) + j) % 8 := by omega
        rw [ei] at k1
        exact ⟨k, by rw [a5 _ (by omega)]; exact k1, hold _ k _ (Nat.mod_lt _ (by decide)) (by omega) k1 k2⟩
/-- what is filled -/
theorem fill_HR {I I2 : amI} {L L2 : amL} {h : Nat} {r : Row} (h85 : 85 ≤ h)
    (eI : I2 = (setI (setI (setI (setI I h (upd (I h) 0 (I 3 0))) h (upd ((setI I h (upd (I h) 0 (I 3 0))) h) 1 ((setI I h (upd (I h) 0 (I 3 0))) 0 15))) (h + 1) (va_cpy ((setI (setI I h (upd (I h) 0 (I 3 0))) h (upd ((setI I h (upd (I h) 0 (I 3 0))) h) 1 ((setI I h (upd (I h) 0 (I 3 0))) 0 15))) 4) ((setI (setI I h (upd (I h) 0 (I 3 0))) h (upd ((setI I h (upd (I h) 0 (I 3 0))) h) 1 ((setI I h (upd (I h) 0 (I 3 0))) 0 15))) (h + 1)) (0 : Int32).toNatClampNeg (0 : Int32).toNatClampNeg (16 : Int32).toNatClampNeg)) (h + 4) (va_cpy ((setI (setI (setI I h (upd (I h) 0 (I 3 0))) h (upd ((setI I h (upd (I h) 0 (I 3 0))) h) 1 ((setI I h (upd (I h) 0 (I 3 0))) 0 15))) (h + 1) (va_cpy ((setI (setI I h (upd (I h) 0 (I 3 0))) h (upd ((setI I h (upd (I h) 0 (I 3 0))) h) 1 ((setI I h (upd (I h) 0 (I 3 0))) 0 15))) 4) ((setI (setI I h (upd (I h) 0 (I 3 0))) h (upd ((setI I h (upd (I h) 0 (I 3 0))) h) 1 ((setI I h (upd (I h) 0 (I 3 0))) 0 15))) (h + 1)) (0 : Int32).toNatClampNeg (0 : Int32).toNatClampNeg (16 : Int32).toNatClampNeg)) 42) ((setI (setI (setI I h (upd (I h) 0 (I 3 0))) h (upd ((setI I h (upd (I h) 0 (I 3 0))) h) 1 ((setI I h (upd (I h) 0 (I 3 0))) 0 15))) (h + 1) (va_cpy ((setI (setI I h (upd (I h) 0 (I 3 0))) h (upd ((setI I h (upd (I h) 0 (I 3 0))) h) 1 ((setI I h (upd (I h) 0 (I 3 0))) 0 15))) 4) ((setI (setI I h (upd (I h) 0 (I 3 0))) h (upd ((setI I h (upd (I h) 0 (I 3 0))) h) 1 ((setI I h (upd (I h) 0 (I 3 0))) 0 15))) (h + 1)) (0 : Int32).toNatClampNeg (0 : Int32).toNatClampNeg (16 : Int32).toNatClampNeg)) (h + 4)) (0 : Int32).toNatClampNeg (0 : Int32).toNatClampNeg (16 : Int32).toNatClampNeg)))
    (eL : L2 = (setL (setL L (h + 2) (va_cpy (L 36) (L (h + 2)) (0 : Int32).toNatClampNeg (0 : Int32).toNatClampNeg (1024 : Int32).toNatClampNeg)) (h + 3) (va_cpy ((setL L (h + 2) (va_cpy (L 36) (L (h + 2)) (0 : Int32).toNatClampNeg (0 : Int32).toNatClampNeg (1024 : Int32).toNatClampNeg)) 40) ((setL L (h + 2) (va_cpy (L 36) (L (h + 2)) (0 : Int32).toNatClampNeg (0 : Int32).toNatClampNeg (1024 : Int32).toNatClampNeg)) (h + 3)) (0 : Int32).toNatClampNeg (0 : Int32).toNatClampNeg (16 : Int32).toNatClampNeg)))
    (c1 : I 3 0 = nI (rN r)) (c2 : I 0 15 = rE r) (c3 : ∀ x, x < 16 → I 4 x = rA r x) (c4 : ∀ k, k < 1024 → L 36 k = rF r k) (c5 : ∀ a, a < 16 → L 40 a = rD r a) (c6 : ∀ x, x < 16 → I 42 x = rP r x) : HR I2 L2 h r ∧ ∀ q, (q < h ∨ h + 5 ≤ q) → I2 q = I q ∧ L2 q = L q := by
  subst eI; subst eL
  refine ⟨⟨?_, ?_, fun x hx => ?_, fun k hk => ?_, fun a ha => ?_, fun x hx => ?_⟩, fun q hq => ⟨?_, ?_⟩⟩
  · rw [setI_n (by omega), setI_n (by omega), setI_s, upd_n (by decide), setI_s, upd_s]; exact c1
  · rw [setI_n (by omega), setI_n (by omega), setI_s, upd_s, setI_n (by omega)]; exact c2
  · rw [setI_n (by omega), setI_s, cpy0 (N := 16) (by decide) hx, setI_n (by omega), setI_n (by omega)]; exact c3 x hx
  · rw [setL_n (by omega), setL_s, cpy0 (N := 1024) (by decide) hk]; exact c4 k hk
  · rw [setL_s, cpy0 (N := 16) (by decide) ha, setL_n (by omega)]; exact c5 a ha
  · rw [setI_s, cpy0 (N := 16) (by decide) hx, setI_n (by omega), setI_n (by omega), setI_n (by omega)]; exact c6 x hx
  · rw [setI_n (by omega), setI_n (by omega), setI_n (by omega), setI_n (by omega)]
  · rw [setL_n (by omega), setL_n (by omega)]
set_option maxRecDepth 100000 in
set_option maxHeartbeats 4000000 in
theorem b_X11_remember_0 {z : amZ} {ce sl mc ms : Nat} {post : amP} {G : amG} {I : amI} {L : amL} (hz : Go z cX11_remember RX11 2 none 3 mc ms post) (hce : ce ≤ mc ∧ sl ≤ ms) (hG : Lay G)  (h : ∃ (dq1 mcq1 msq1 : Nat) (postq1 : amP), Nat.ble (dq1 + 1) 3 = true ∧ (ce + mcq1 ≤ mc ∧ sl + msq1 ≤ ms) ∧ Mx (zL z) (zD z) (zB z) yX1_push cX1_push 2 (some (.object "OrderAlgebra$State")) dq1 mcq1 msq1 [.ref ((zB z).size + 61)] G I L postq1 ∧ ∀ (roq1 : Option Value) (Gq1 : amG) (Iq1 : amI) (Lq1 : amL), postq1 roq1 Gq1 Iq1 Lq1 → ∃ (hh : Nat), roq1 = some (.ref ((zB z).size + hh)) ∧ Lay Gq1 ∧ HS Gq1 hh ∧ post none Gq1 (setI (setI (setI (setI Iq1 hh (upd (Iq1 hh) 0 (Iq1 3 0))) hh (upd ((setI Iq1 hh (upd (Iq1 hh) 0 (Iq1 3 0))) hh) 1 ((setI Iq1 hh (upd (Iq1 hh) 0 (Iq1 3 0))) 0 15))) (hh + 1) (va_cpy ((setI (setI Iq1 hh (upd (Iq1 hh) 0 (Iq1 3 0))) hh (upd ((setI Iq1 hh (upd (Iq1 hh) 0 (Iq1 3 0))) hh) 1 ((setI Iq1 hh (upd (Iq1 hh) 0 (Iq1 3 0))) 0 15))) 4) ((setI (setI Iq1 hh (upd (Iq1 hh) 0 (Iq1 3 0))) hh (upd ((setI Iq1 hh (upd (Iq1 hh) 0 (Iq1 3 0))) hh) 1 ((setI Iq1 hh (upd (Iq1 hh) 0 (Iq1 3 0))) 0 15))) (hh + 1)) (0 : Int32).toNatClampNeg (0 : Int32).toNatClampNeg (16 : Int32).toNatClampNeg)) (hh + 4) (va_cpy ((setI (setI (setI Iq1 hh (upd (Iq1 hh) 0 (Iq1 3 0))) hh (upd ((setI Iq1 hh (upd (Iq1 hh) 0 (Iq1 3 0))) hh) 1 ((setI Iq1 hh (upd (Iq1 hh) 0 (Iq1 3 0))) 0 15))) (hh + 1) (va_cpy ((setI (setI Iq1 hh (upd (Iq1 hh) 0 (Iq1 3 0))) hh (upd ((setI Iq1 hh (upd (Iq1 hh) 0 (Iq1 3 0))) hh) 1 ((setI Iq1 hh (upd (Iq1 hh) 0 (Iq1 3 0))) 0 15))) 4) ((setI (setI Iq1 hh (upd (Iq1 hh) 0 (Iq1 3 0))) hh (upd ((setI Iq1 hh (upd (Iq1 hh) 0 (Iq1 3 0))) hh) 1 ((setI Iq1 hh (upd (Iq1 hh) 0 (Iq1 3 0))) 0 15))) (hh + 1)) (0 : Int32).toNatClampNeg (0 : Int32).toNatClampNeg (16 : Int32).toNatClampNeg)) 42) ((setI (setI (setI Iq1 hh (upd (Iq1 hh) 0 (Iq1 3 0))) hh (upd ((setI Iq1 hh (upd (Iq1 hh) 0 (Iq1 3 0))) hh) 1 ((setI Iq1 hh (upd (Iq1 hh) 0 (Iq1 3 0))) 0 15))) (hh + 1) (va_cpy ((setI (setI Iq1 hh (upd (Iq1 hh) 0 (Iq1 3 0))) hh (upd ((setI Iq1 hh (upd (Iq1 hh) 0 (Iq1 3 0))) hh) 1 ((setI Iq1 hh (upd (Iq1 hh) 0 (Iq1 3 0))) 0 15))) 4) ((setI (setI Iq1 hh (upd (Iq1 hh) 0 (Iq1 3 0))) hh (upd ((setI Iq1 hh (upd (Iq1 hh) 0 (Iq1 3 0))) hh) 1 ((setI Iq1 hh (upd (Iq1 hh) 0 (Iq1 3 0))) 0 15))) (hh + 1)) (0 : Int32).toNatClampNeg (0 : Int32).toNatClampNeg (16 : Int32).toNatClampNeg)) (hh + 4)) (0 : Int32).toNatClampNeg (0 : Int32).toNatClampNeg (16 : Int32).toNatClampNeg)) (setL (setL Lq1 (hh + 2) (va_cpy (Lq1 36) (Lq1 (hh + 2)) (0 : Int32).toNatClampNeg (0 : Int32).toNatClampNeg (1024 : Int32).toNatClampNeg)) (hh + 3) (va_cpy ((setL Lq1 (hh + 2) (va_cpy (Lq1 36) (Lq1 (hh + 2)) (0 : Int32).toNatClampNeg (0 : Int32).toNatClampNeg (1024 : Int32).toNatClampNeg)) 40) ((setL Lq1 (hh + 2) (va_cpy (Lq1 36) (Lq1 (hh + 2)) (0 : Int32).toNatClampNeg (0 : Int32).toNatClampNeg (1024 : Int32).toNatClampNeg)) (hh + 3)) (0 : Int32).toNatClampNeg (0 : Int32).toNatClampNeg (16 : Int32).toNatClampNeg))) : Wx z ce sl 0 [(0, .ref ((zB z).size + 0))] [] G I L := by
  have hz1 := hz.1
  refine am_aload_n hz1 dX11_remember_0 0 rfl rfl ?_
  refine am_getR hz1 fl_X11_96 (ln_0 hG) (lk_0 hG) (lr_0_11 hG) rfl dX11_remember_1 ?_
  obtain ⟨dq1, mcq1, msq1, postq1, hdq1, hcq1, hMq1, h⟩ := h
  refine am_callV hz1 cv_X11_205 [] [] hMq1 (ln_61 hG) (lk_61 hG) rfl rfl (hz.fr hdq1) (hz.lo hdq1) (by rw [hz.2.1]; exact hcq1) (Nat.le_of_ble_eq_true rfl) dX11_remember_4 (fun roq1 Gq1 Iq1 Lq1 hpq1 => ?_)
  obtain ⟨hh, rfl, hGq1, hH, h⟩ := h roq1 Gq1 Iq1 Lq1 hpq1
  refine am_astore_n (lv' := [(1, .ref ((zB z).size + hh)), (0, .ref ((zB z).size + 0))]) hz1 dX11_remember_7 rfl rfl rfl ?_
  refine am_aload_n hz1 dX11_remember_8 0 rfl rfl ?_
  refine am_aload_n hz1 dX11_remember_9 1 rfl rfl ?_
  refine am_getR hz1 fl_X11_21 (ln_0 hGq1) (lk_0 hGq1) (lr_0_2 hGq1) rfl dX11_remember_10 ?_
  refine am_getI hz1 fl_X11_129 (ln_3 hGq1) (lk_3 hGq1) rfl dX11_remember_13 ?_
  refine am_putI hz1 fl_X11_209 (HS_n0 hH) (HS_k0 hH) rfl rfl (fun _ => rfl) dX11_remember_16 ?_
  refine am_aload_n hz1 dX11_remember_19 0 rfl rfl ?_
  refine am_aload_n hz1 dX11_remember_20 1 rfl rfl ?_
  refine am_getI hz1 fl_X11_185 (ln_0 hGq1) (lk_0 hGq1) rfl dX11_remember_21 ?_
  refine am_putI hz1 fl_X11_212 (HS_n0 hH) (HS_k0 hH) rfl rfl (fun _ => rfl) dX11_remember_24 ?_
  refine am_aload_n hz1 dX11_remember_27 1 rfl rfl ?_
  refine am_getR hz1 fl_X11_21 (ln_0 hGq1) (lk_0 hGq1) (lr_0_2 hGq1) rfl dX11_remember_28 ?_
  refine am_getR hz1 fl_X11_130 (ln_3 hGq1) (lk_3 hGq1) (lr_3_1 hGq1) rfl dX11_remember_31 ?_
  refine am_iconst (v := 0) hz1 dX11_remember_34 (by decide) ?_
  refine am_aload_n hz1 dX11_remember_35 0 rfl rfl ?_
  refine am_getR hz1 fl_X11_213 (HS_n0 hH) (HS_k0 hH) (HS_r2 hH) rfl dX11_remember_36 ?_
  refine am_iconst (v := 0) hz1 dX11_remember_39 (by decide) ?_
  refine am_bipush (v := 16) hz1 dX11_remember_40 (by decide) ?_
  refine am_copyI hz ml_X11_214 (ln_4 hGq1) (lk_4 hGq1) (HS_n1 hH) (HS_k1 hH) (by decide) (by decide) (by decide) (by rw [(ll_4 hGq1)]; decide) (by rw [(HS_l1 hH)]; decide) rfl (Nat.le_of_ble_eq_true rfl) dX11_remember_42 ?_
  refine am_aload_n hz1 dX11_remember_45 1 rfl rfl ?_
  refine am_getR hz1 fl_X11_53 (ln_0 hGq1) (lk_0 hGq1) (lr_0_5 hGq1) rfl dX11_remember_46 ?_
  refine am_getR hz1 fl_X11_220 (ln_35 hGq1) (lk_35 hGq1) (lr_35_0 hGq1) rfl dX11_remember_49 ?_
  refine am_iconst (v := 0) hz1 dX11_remember_52 (by decide) ?_
  refine am_aload_n hz1 dX11_remember_53 0 rfl rfl ?_
  refine am_getR hz1 fl_X11_223 (HS_n0 hH) (HS_k0 hH) (HS_r3 hH) rfl dX11_remember_54 ?_
  refine am_iconst (v := 0) hz1 dX11_remember_57 (by decide) ?_
  refine am_sipush (v := 1024) hz1 dX11_remember_58 (by decide) ?_
  refine am_copyL hz ml_X11_214 (ln_36 hGq1) (lk_36 hGq1) (HS_n2 hH) (HS_k2 hH) (by decide) (by decide) (by decide) (by rw [(ll_36 hGq1)]; decide) (by rw [(HS_l2 hH)]; decide) rfl (Nat.le_of_ble_eq_true rfl) dX11_remember_61 ?_
  refine am_aload_n hz1 dX11_remember_64 1 rfl rfl ?_
  refine am_getR hz1 fl_X11_57 (ln_0 hGq1) (lk_0 hGq1) (lr_0_6 hGq1) rfl dX11_remember_65 ?_
  refine am_iconst (v := 0) hz1 dX11_remember_68 (by decide) ?_
  refine am_aload_n hz1 dX11_remember_69 0 rfl rfl ?_
  refine am_getR hz1 fl_X11_224 (HS_n0 hH) (HS_k0 hH) (HS_r4 hH) rfl dX11_remember_70 ?_
  refine am_iconst (v := 0) hz1 dX11_remember_73 (by decide) ?_
  refine am_bipush (v := 16) hz1 dX11_remember_74 (by decide) ?_
  refine am_copyL hz ml_X11_214 (ln_40 hGq1) (lk_40 hGq1) (HS_n3 hH) (HS_k3 hH) (by decide) (by decide) (by decide) (by rw [(ll_40 hGq1)]; decide) (by rw [(HS_l3 hH)]; decide) rfl (Nat.le_of_ble_eq_true rfl) dX11_remember_76 ?_
  refine am_aload_n hz1 dX11_remember_79 1 rfl rfl ?_
  refine am_getR hz1 fl_X11_66 (ln_0 hGq1) (lk_0 hGq1) (lr_0_7 hGq1) rfl dX11_remember_80 ?_
  refine am_getR hz1 fl_X11_225 (ln_41 hGq1) (lk_41 hGq1) (lr_41_0 hGq1) rfl dX11_remember_83 ?_
  refine am_iconst (v := 0) hz1 dX11_remember_86 (by decide) ?_
  refine am_aload_n hz1 dX11_remember_87 0 rfl rfl ?_
  refine am_getR hz1 fl_X11_228 (HS_n0 hH) (HS_k0 hH) (HS_r5 hH) rfl dX11_remember_88 ?_
  refine am_iconst (v := 0) hz1 dX11_remember_91 (by decide) ?_
  refine am_bipush (v := 16) hz1 dX11_remember_92 (by decide) ?_
  refine am_copyI hz ml_X11_214 (ln_42 hGq1) (lk_42 hGq1) (HS_n4 hH) (HS_k4 hH) (by decide) (by decide) (by decide) (by rw [(ll_42 hGq1)]; decide) (by rw [(HS_l4 hH)]; decide) rfl (Nat.le_of_ble_eq_true rfl) dX11_remember_94 ?_
  exact am_widen hcq1.1 hcq1.2 (am_return hz dX11_remember_97 h)
set_option maxRecDepth 100000 in
set_option maxHeartbeats 4000000 in
theorem c_X11_remember {l : Launch} {D : va_G} {B : Heap} {G : amG} {I : amI} {L : amL}  (hG : Lay G)   {s : St} (hs : CO s G I L) (hw : WF s) : Mx l D B yX11_remember cX11_remember 2 none 3 5 1078 [.ref (B.size + 0)] G I L (rmP s G I L) := by
  refine Mx.of (by decide) rfl rfl (fun z e1 e2 e3 hz => ?_)
  subst e1; subst e2; subst e3
  refine b_X11_remember_0 hz ⟨Nat.zero_le _, Nat.zero_le _⟩ hG ?_
  obtain ⟨nx, n8, h1, h2, m8, hHS, hdis, hrow⟩ := hs.2.2.2.1
  have h85 := hG.1
  have hpush : ∃ mc ms, mc ≤ 5 ∧ ms ≤ 1078 ∧ Mx (zL z) (zD z) (zB z) yX1_push cX1_push 2 (some (.object "OrderAlgebra$State")) 2 mc ms [.ref ((zB z).size + 61)] G I L (psP (zB z) nx (sH s).1 G I L) := by
    cases e : gR G 62 nx with
    | none => exact ⟨5, 1078, Nat.le_refl _, Nat.le_refl _, c_X1_pushN hG h1 n8 h2 m8 e⟩
    | some h => exact ⟨0, 0, Nat.zero_le _, Nat.zero_le _, c_X1_pushS hG h1 n8 h2 m8 e (hHS nx h n8 e)⟩
  obtain ⟨mc, ms, hmc, hms, hM⟩ := hpush
  refine ⟨2, mc, ms, _, rfl, ⟨by omega, by omega⟩, hM, fun ro G1 I1 L1 ⟨h, a1, a2, a3, a4, a5, a6, a7, a8, a9, a10, a11, a12⟩ => ⟨h, a1, a2, a3, ?_⟩⟩
  have hO := hs.2.1.1
  have hlt : ∀ q, q < 85 → q < gN G := fun q hq => by omega
  obtain ⟨b1, b2⟩ := fill_HR (I := I1) (L := L1) (h := h) (r := sC s) a3.1 rfl rfl (by rw [a9 3 (hlt 3 (by decide)) (by decide)]; exact hO.1) (by rw [a9 0 (hlt 0 (by decide)) (by decide)]; exact hs.2.1.2.2.2.2.1.trans hw.2.1.symm) (fun x hx => by
    rw [a9 4 (hlt 4 (by decide)) (by decide)]
    rcases Nat.lt_or_ge x (rN (sC s)) with e | e
    · exact hO.2.2.2.1 x e
    · rw [hw.1.2.2.2 x e hx]; exact hO.2.2.2.2.1 x e hx) (fun k hk => by rw [a10 36 (hlt 36 (by decide))]; exact hs.2.1.2.1 k hk) (fun a ha => by rw [a10 40 (hlt 40 (by decide))]; exact hs.2.1.2.2.1 a ha) (fun x hx => by rw [a9 42 (hlt 42 (by decide)) (by decide)]; exact hs.2.1.2.2.2.1 x hx)
  have hh := a3.1
  refine ⟨rfl, ⟨a2, ?_, ?_, CR_push hG n8 m8 hHS hdis hrow a3 a4 a5 a6 a7 a8 a9 a10 a11 a12 b1 b2, ?_⟩, fun q hq h61 => ?_, fun q hq => ?_, ?_⟩
  · exact CQ_c (s := pushS s) hs.2.1 (fun q hq => by rw [(b2 q (by omega)).1, a9 q (by omega) (by omega)]) (by rw [(b2 36 (by omega)).2, a10 36 (by omega)]) (by rw [(b2 40 (by omega)).2, a10 40 (by omega)])
  · exact CK_c (s := pushS s) hs.2.2.1 (fun q p1 p2 => by rw [(b2 q (by omega)).1, a9 q (by omega) (by omega)]) (by rw [(b2 56 (by omega)).2, a10 56 (by omega)]) (by rw [(b2 57 (by omega)).2, a10 57 (by omega)])
  · obtain ⟨wp, len, w1, w2, w3, w4⟩ := hs.2.2.2.2
    have hwn := w1.2.1
    refine ⟨wp, len, ⟨by rw [(a6 56 (by omega)).2.2 (by decide)]; exact w1.1, by omega, by rw [(a6 wp hwn).1]; exact w1.2.2.1, by rw [(a6 wp hwn).2.1]; exact w1.2.2.2⟩, w2, w3, fun i k hi hk => ?_⟩
    by_cases e : i = nx
    · rw [e, a4] at hk; cases hk
      rcases a8 with q | ⟨q, q2⟩
      · exact w4 nx h n8 q
      · left; omega
    · rw [a5 i e] at hk; exact w4 i k hi hk
  · rw [(b2 q (by omega)).1, a9 q (by omega) h61]
  · rw [(b2 q (by omega)).2, a10 q (by omega)]
  · obtain ⟨wp, len, w1, _⟩ := hs.2.2.2.2
    rw [wl, wl, (a6 56 (by omega)).2.2 (by decide), w1.1]
    exact (a6 wp w1.2.1).2.1
