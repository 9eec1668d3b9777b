/-! THE CLASS: another order -/
section PC
variable {n : Nat} {A A' : Nat → Int32}
theorem PO_c (h : ∀ x, x < n → A x = A' x) (hP : PO n A) : PO n A' :=
  ⟨fun x hx i hi hb => hP.1 x hx i hi (by rw [h x hx]; exact hb), fun x hx => by rw [← h x hx]; exact hP.2.1 x hx, fun x y w hx hy hw h1 h2 => by rw [← h x hx] at h1 ⊢; rw [← h y hy] at h2; exact hP.2.2 x y w hx hy hw h1 h2⟩
theorem bn_c (h : ∀ x, x < n → A x = A' x) (x : Nat) : bn n A x = bn n A' x := mkset_cong (fun w hw => by rw [h w hw])
theorem key_c (h : ∀ x, x < n → A x = A' x) (x : Nat) : key n A x = key n A' x := ct_cong (fun w hw => by rw [h w hw])
theorem cv_c (h : ∀ x, x < n → A x = A' x) {x : Nat} (hx : x < n) (y : Nat) : cv n A x y = cv n A' x y := by rw [cv, cv, h x hx, bn_c h]
theorem pos_c (h : ∀ x, x < n → A x = A' x) (x : Nat) : pos n A x = pos n A' x := by simp only [pos, Fc, key_c h]
theorem Der_cA {I : amI} {o : Nat} (h : ∀ x, x < n → A x = A' x) (hD : Der I o n A) : Der I o n A' := by
  obtain ⟨d1, d2, d3, d4, d5, d6⟩ := hD
  exact ⟨fun x hx => by rw [d1 x hx, bn_c h], fun x hx => by rw [d2 x hx, mkset_cong (fun y _ => cv_c h hx y)], fun y hy => by rw [d3 y hy, mkset_cong (fun x hx => cv_c h hx y)], fun y hy => by rw [← pos_c h]; exact d4 y hy, fun x hx => by rw [← bn_c h]; exact d5 x hx, d6⟩
end PC
def fgI (I : amI) : amI := setI (setI (setI I 46 (upd (I 46) 12 0)) 56 (upd ((setI I 46 (upd (I 46) 12 0)) 56) 5 0)) 56 (upd ((setI (setI I 46 (upd (I 46) 12 0)) 56 (upd ((setI I 46 (upd (I 46) 12 0)) 56) 5 0)) 56) 6 0)
theorem fgI_46 {I : amI} : fgI I 46 12 = 0 := by rw [fgI, setI_n (by decide), setI_n (by decide), setI_s, upd_s]
theorem fgI_5 {I : amI} : fgI I 56 5 = 0 := by rw [fgI, setI_s, upd_n (by decide), setI_s, upd_s]
theorem fgI_6 {I : amI} : fgI I 56 6 = 0 := by rw [fgI, setI_s, upd_s]
theorem fgI_o {I : amI} {q : Nat} (h1 : q ≠ 46) (h2 : q ≠ 56) : fgI I q = I q := by rw [fgI, setI_n h2, setI_n h2, setI_n h1]
set_option maxRecDepth 100000 in
set_option maxHeartbeats 4000000 in
theorem b_X11_forgetReckoned_0 {z : amZ} {post : amP} {G : amG} {I : amI} {L : amL} (hz : Go z cX11_forgetReckoned RX11 1 none 1 0 0 post) (hG : Lay G)  (h : post none G (setI (setI (setI I 46 (upd (I 46) 12 0)) 56 (upd ((setI I 46 (upd (I 46) 12 0)) 56) 5 0)) 56 (upd ((setI (setI I 46 (upd (I 46) 12 0)) 56 (upd ((setI I 46 (upd (I 46) 12 0)) 56) 5 0)) 56) 6 0)) L) : Wx z 0 0 0 [(0, .ref ((zB z).size + 0))] [] G I L := by
  have hz1 := hz.1
  refine am_aload_n hz1 dX11_forgetReckoned_0 0 rfl rfl ?_
  refine am_getR hz1 fl_X11_82 (ln_0 hG) (lk_0 hG) (lr_0_9 hG) rfl dX11_forgetReckoned_1 ?_
  refine am_cVf hz cv_X11_201 [] [] (c_X2_forget hG  ) (ln_46 hG) (lk_46 hG) rfl rfl rfl ⟨Nat.le_refl _, Nat.le_refl _⟩ (Nat.le_of_ble_eq_true rfl) dX11_forgetReckoned_4 ?_
  refine am_aload_n hz1 dX11_forgetReckoned_7 0 rfl rfl ?_
  refine am_getR hz1 fl_X11_89 (ln_0 hG) (lk_0 hG) (lr_0_10 hG) rfl dX11_forgetReckoned_8 ?_
  refine am_cVf hz cv_X11_204 [] [] (c_X7_forget hG  ) (ln_56 hG) (lk_56 hG) rfl rfl rfl ⟨Nat.le_refl _, Nat.le_refl _⟩ (Nat.le_of_ble_eq_true rfl) dX11_forgetReckoned_11 ?_
  exact am_return hz dX11_forgetReckoned_14 h
set_option maxRecDepth 100000 in
set_option maxHeartbeats 4000000 in
theorem c_X11_forgetReckoned {l : Launch} {D : va_G} {B : Heap} {G : amG} {I : amI} {L : amL}  (hG : Lay G)    : Fx l D B yX11_forgetReckoned cX11_forgetReckoned 1 none 1 [.ref (B.size + 0)] G I L none (fgI I) L := by
  refine Mx.of (by decide) rfl rfl (fun z e1 e2 e3 hz => ?_)
  subst e1; subst e2; subst e3
  refine b_X11_forgetReckoned_0 hz hG ?_
  exact ⟨rfl, rfl, rfl, rfl⟩
/-- the draft does not matter -/
theorem CO_d {s : St} {G : amG} {I I1 : amI} {L : amL} (h : CO s G I L) (e : ∀ q, (q < 10 ∨ 18 < q) → I1 q = I q) : CO s G I1 L ∧ frK I L I1 L := by
  obtain ⟨h1, h2, h3, h4, h5⟩ := h
  exact ⟨⟨h1, CQ_c h2 (fun q hq => e q (by omega)) rfl rfl, CK_c h3 (fun q a b => e q (by omega)) rfl rfl, CR_c h4 (e 61 (by omega)) (fun q hq => e q (by omega)) (fun _ _ => rfl), h5⟩, fun q a b => ⟨e q (by omega), rfl⟩⟩
theorem OI_derive {I2 I3 : amI} {o m : Nat} {A : Nat → Int32} (c0 : I2 o 0 = nI m) (d2 : 1 ≤ m) (d3 : m ≤ 16) (c4 : ∀ j, j < 16 → I2 (o + 1) j = if j < m then A j else 0) (d6 : PO m A) (r4 : ∀ q, (∀ j, 2 ≤ j → j ≤ 6 → q ≠ o + j) → I3 q = I2 q) (r5 : Der I3 o m (I2 (o + 1))) : OI I3 o m A := by
  have e0 : I3 o = I2 o := r4 o (fun j h1 h2 => by omega)
  have e1 : I3 (o + 1) = I2 (o + 1) := r4 (o + 1) (fun j h1 h2 => by omega)
  exact ⟨by rw [e0]; exact c0, d2, d3, fun x hx => by rw [e1, c4 x (by omega), if_pos hx], fun x h1 h2 => by rw [e1, c4 x h2, if_neg (by omega)], d6, Der_cA (fun x hx => by rw [c4 x (by omega), if_pos hx]) r5⟩
theorem copy_f {I : amI} {o p m : Nat} (d2 : 1 ≤ m) (d3 : m ≤ 16) {v : Int32} (hv : v = nI m) (hp : p ≠ o) (hp1 : p ≠ o + 1) {A : Nat → Int32} (hA : ∀ x, x < m → I p x = A x) : q_copy I o v p o 0 = nI m ∧ (∀ j, j < 16 → q_copy I o v p (o + 1) j = if j < m then A j else 0) ∧ ∀ q, q ≠ o → q ≠ o + 1 → q_copy I o v p q = I q := by
  subst hv
  rw [q_copy, q_sz_n d2 d3]
  refine ⟨by rw [setI_n (by omega), setI_s, upd_s], fun j hj => ?_, fun q h1 h2 => by rw [setI_n h2, setI_n h1]⟩
  rw [setI_s, q_cp, cl_nI (by omega)]
  by_cases e : j < m
  · rw [if_pos e, if_pos e, hA j e]
  · rw [if_neg e, if_neg e, if_pos hj]
set_option maxRecDepth 100000 in
set_option maxHeartbeats 4000000 in
theorem b_X11_adoptDraft_0 {z : amZ} {ce sl mc ms : Nat} {post : amP} {G : amG} {I : amI} {L : amL} (hz : Go z cX11_adoptDraft RX11 1 (some .int) 4 mc ms post) (hce : ce ≤ mc ∧ sl ≤ ms) (hG : Lay G)  (h : ∃ (dq1 mcq1 msq1 : Nat) (postq1 : amP), Nat.ble (dq1 + 1) 4 = true ∧ (ce + mcq1 ≤ mc ∧ sl + msq1 ≤ ms) ∧ Mx (zL z) (zD z) (zB z) yX11_remember cX11_remember 2 none dq1 mcq1 msq1 [.ref ((zB z).size + 0)] G I L postq1 ∧ ∀ (roq1 : Option Value) (Gq1 : amG) (Iq1 : amI) (Lq1 : amL), postq1 roq1 Gq1 Iq1 Lq1 → roq1 = none ∧ Lay Gq1 ∧ (11 ≠ 3) ∧ (11 ≠ 3 + 1) ∧ ∃ (dq4 mcq4 msq4 : Nat) (postq4 : amP), Nat.ble (dq4 + 1) 4 = true ∧ (ce + mcq1 + mcq4 ≤ mc ∧ sl + msq1 + msq4 ≤ ms) ∧ Mx (zL z) (zD z) (zB z) yX4_derive cX4_derive 1 none dq4 mcq4 msq4 [.ref ((zB z).size + 3)] Gq1 (q_copy Iq1 3 (Iq1 10 0) 11) Lq1 postq4 ∧ ∀ (roq4 : Option Value) (Gq4 : amG) (Iq4 : amI) (Lq4 : amL), postq4 roq4 Gq4 Iq4 Lq4 → roq4 = none ∧ Lay Gq4 ∧ post (some (.int ((setI (fgI Iq4) 42 (q_fill ((fgI Iq4) 42) 16 (-1))) 3 0))) Gq4 (setI (fgI Iq4) 42 (q_fill ((fgI Iq4) 42) 16 (-1))) (setL (setL Lq4 36 (q_fill (Lq4 36) 1024 0)) 40 (q_fill ((setL Lq4 36 (q_fill (Lq4 36) 1024 0)) 40) 16 (0 : Int64)))) : Wx z ce sl 0 [(0, .ref ((zB z).size + 0))] [] G I L := by
  have hz1 := hz.1
  refine am_aload_n hz1 dX11_adoptDraft_0 0 rfl rfl ?_
  obtain ⟨dq1, mcq1, msq1, postq1, hdq1, hcq1, hMq1, h⟩ := h
  refine am_callV hz1 cv_X11_188 [] [] hMq1 (ln_0 hG) (lk_0 hG) rfl rfl (hz.fr hdq1) (hz.lo hdq1) (by rw [hz.2.1]; exact hcq1) (Nat.le_of_ble_eq_true rfl) dX11_adoptDraft_1 (fun roq1 Gq1 Iq1 Lq1 hpq1 => ?_)
  obtain ⟨rfl, hGq1, h⟩ := h roq1 Gq1 Iq1 Lq1 hpq1
  refine am_aload_n hz1 dX11_adoptDraft_4 0 rfl rfl ?_
  refine am_getR hz1 fl_X11_21 (ln_0 hGq1) (lk_0 hGq1) (lr_0_2 hGq1) rfl dX11_adoptDraft_5 ?_
  refine am_aload_n hz1 dX11_adoptDraft_8 0 rfl rfl ?_
  refine am_getR hz1 fl_X11_25 (ln_0 hGq1) (lk_0 hGq1) (lr_0_3 hGq1) rfl dX11_adoptDraft_9 ?_
  refine am_getI hz1 fl_X11_129 (ln_10 hGq1) (lk_10 hGq1) rfl dX11_adoptDraft_12 ?_
  refine am_aload_n hz1 dX11_adoptDraft_15 0 rfl rfl ?_
  refine am_getR hz1 fl_X11_25 (ln_0 hGq1) (lk_0 hGq1) (lr_0_3 hGq1) rfl dX11_adoptDraft_16 ?_
  refine am_getR hz1 fl_X11_130 (ln_10 hGq1) (lk_10 hGq1) (lr_10_1 hGq1) rfl dX11_adoptDraft_19 ?_
  obtain ⟨g2, h⟩ := h
  obtain ⟨g3, h⟩ := h
  refine am_cVf hz cv_X11_134 [.int (Iq1 10 0), .ref ((zB z).size + 11)] [] (c_X4_copy hGq1 isO_3 (ln_11 hGq1) (lk_11 hGq1) (ll_11 hGq1) (Iq1 10 0) g2 g3) (ln_3 hGq1) (lk_3 hGq1) rfl rfl rfl hcq1 (Nat.le_of_ble_eq_true rfl) dX11_adoptDraft_22 ?_
  refine am_aload_n hz1 dX11_adoptDraft_25 0 rfl rfl ?_
  refine am_getR hz1 fl_X11_21 (ln_0 hGq1) (lk_0 hGq1) (lr_0_2 hGq1) rfl dX11_adoptDraft_26 ?_
  obtain ⟨dq4, mcq4, msq4, postq4, hdq4, hcq4, hMq4, h⟩ := h
  refine am_callV hz1 cv_X11_176 [] [] hMq4 (ln_3 hGq1) (lk_3 hGq1) rfl rfl (hz.fr hdq4) (hz.lo hdq4) (by rw [hz.2.1]; exact hcq4) (Nat.le_of_ble_eq_true rfl) dX11_adoptDraft_29 (fun roq4 Gq4 Iq4 Lq4 hpq4 => ?_)
  obtain ⟨rfl, hGq4, h⟩ := h roq4 Gq4 Iq4 Lq4 hpq4
  refine am_aload_n hz1 dX11_adoptDraft_32 0 rfl rfl ?_
  refine am_cVf hz cv_X11_191 [] [] (c_X11_forgetReckoned hGq4  ) (ln_0 hGq4) (lk_0 hGq4) rfl rfl rfl hcq4 (Nat.le_of_ble_eq_true rfl) dX11_adoptDraft_33 ?_
  refine am_aload_n hz1 dX11_adoptDraft_36 0 rfl rfl ?_
  refine am_getR hz1 fl_X11_53 (ln_0 hGq4) (lk_0 hGq4) (lr_0_5 hGq4) rfl dX11_adoptDraft_37 ?_
  refine am_cVf hz cv_X11_194 [] [] (c_X0_clear hGq4  ) (ln_35 hGq4) (lk_35 hGq4) rfl rfl rfl hcq4 (Nat.le_of_ble_eq_true rfl) dX11_adoptDraft_40 ?_
  refine am_aload_n hz1 dX11_adoptDraft_43 0 rfl rfl ?_
  refine am_getR hz1 fl_X11_57 (ln_0 hGq4) (lk_0 hGq4) (lr_0_6 hGq4) rfl dX11_adoptDraft_44 ?_
  refine am_lconst (v := 0) hz1 dX11_adoptDraft_47 (by decide) ?_
  refine am_cSf hz ct_X11_195 [.ref ((zB z).size + 40), .long (0 : Int64)] [] (c_J7_fill_d0a16 hGq4 (ln_40 hGq4) (lk_40 hGq4) (ll_40 hGq4) (0 : Int64) (by decide)) rfl rfl rfl hcq4 (Nat.le_of_ble_eq_true rfl) dX11_adoptDraft_48 ?_
  refine am_aload_n hz1 dX11_adoptDraft_51 0 rfl rfl ?_
  refine am_getR hz1 fl_X11_66 (ln_0 hGq4) (lk_0 hGq4) (lr_0_7 hGq4) rfl dX11_adoptDraft_52 ?_
  refine am_cVf hz cv_X11_182 [] [] (c_X3_clear hGq4  ) (ln_41 hGq4) (lk_41 hGq4) rfl rfl rfl hcq4 (Nat.le_of_ble_eq_true rfl) dX11_adoptDraft_55 ?_
  refine am_aload_n hz1 dX11_adoptDraft_58 0 rfl rfl ?_
  refine am_getR hz1 fl_X11_21 (ln_0 hGq4) (lk_0 hGq4) (lr_0_2 hGq4) rfl dX11_adoptDraft_59 ?_
  refine am_getI hz1 fl_X11_129 (ln_3 hGq4) (lk_3 hGq4) rfl dX11_adoptDraft_62 ?_
  exact am_widen hcq4.1 hcq4.2 (am_ireturn hz dX11_adoptDraft_65 h)
set_option maxRecDepth 100000 in
set_option maxHeartbeats 4000000 in
theorem c_X11_adoptDraft {l : Launch} {D : va_G} {B : Heap} {G : amG} {I : amI} {L : amL}  (hG : Lay G)   {s : St} {m : Nat} {A : Nat → Int32} (hs : CO s G I L) (hw : WF s) (hd : dO I m A) : Mx l D B yX11_adoptDraft cX11_adoptDraft 1 (some .int) 4 5 1078 [.ref (B.size + 0)] G I L (CA (adoptS s m A) (nI m) G I L) := by
  refine Mx.of (by decide) rfl rfl (fun z e1 e2 e3 hz => ?_)
  subst e1; subst e2; subst e3
  refine b_X11_adoptDraft_0 hz ⟨Nat.zero_le _, Nat.zero_le _⟩ hG ?_
  obtain ⟨d1, d2, d3, d4, d5, d6⟩ := hd
  refine ⟨3, 5, 1078, _, rfl, ⟨by omega, by omega⟩, c_X11_remember hG hs hw, fun ro G1 I1 L1 ⟨m1, m2, m3, m4, m5⟩ => ⟨m1, m2.1, by decide, by decide, ?_⟩⟩
  have e10 : I1 10 0 = nI m := by rw [m3 10 (by decide) (by decide)]; exact d1
  have e11 : I1 11 = I 11 := m3 11 (by decide) (by decide)
  obtain ⟨c0, c4, co⟩ := copy_f (I := I1) (o := 3) (p := 11) d2 d3 e10 (by decide) (by decide) (A := A) (fun x hx => by rw [e11]; exact d4 x hx)
  generalize q_copy I1 3 (I1 10 0) 11 = I2 at c0 c4 co ⊢
  refine ⟨2, 0, 0, _, rfl, ⟨by omega, by omega⟩, c_X4_derive m2.1 (Or.inl rfl) c0 d2 d3 (PO_c (fun x hx => by rw [c4 x (by omega), if_pos hx]) d6), fun ro2 G2 I3 L2 ⟨r1, r2, r3, r4, r5⟩ => ⟨r1, by rw [r2]; exact m2.1, ?_⟩⟩
  have hO3 := OI_derive c0 d2 d3 c4 d6 r4 r5
  have o3 : ∀ q, (q < 3 ∨ 9 < q) → I3 q = I1 q := fun q hq => by rw [r4 q (fun j a b => by omega), co q (by omega) (by omega)]
  rw [r2, r3]
  have oF : ∀ q, (q < 3 ∨ 9 < q) → q ≠ 42 → q ≠ 46 → q ≠ 56 → setI (fgI I3) 42 (q_fill ((fgI I3) 42) 16 (-1)) q = I1 q := fun q h1 h2 h3 h4 => by rw [setI_n h2, fgI_o h3 h4, o3 q h1]
  have oL : ∀ q, q ≠ 36 → q ≠ 40 → setL (setL L1 36 (q_fill (L1 36) 1024 0)) 40 (q_fill ((setL L1 36 (q_fill (L1 36) 1024 0)) 40) 16 (0 : Int64)) q = L1 q := fun q h1 h2 => by rw [setL_n h2, setL_n h1]
  obtain ⟨h1, ⟨_, _, _, _, e, a0, a1, b, t1, t2⟩, h3, h4, h5⟩ := m2
  refine ⟨?_, ⟨h1, ⟨?_, fun k hk => ?_, fun a ha => ?_, fun x hx => ?_, ?_, ?_, ?_, ?_, ?_, ?_⟩, ⟨Or.inl ?_, Or.inl ?_, Or.inl ?_⟩, CR_c h4 (oF 61 (by omega) (by decide) (by decide) (by decide)) (fun q hq => oF q (by omega) (by omega) (by omega) (by omega)) (fun q hq => oL q (by omega) (by omega)), h5⟩, fun q p1 p2 => ⟨by rw [oF q (by omega) (by omega) (by omega) (by omega), m3 q p2 (by omega)], by rw [oL q (by omega) (by omega), m4 q p2]⟩, m5⟩
  · rw [setI_n (by decide), fgI_o (by decide) (by decide), hO3.1]
  · exact OI_20 hO3 (fun q a b => by rw [setI_n (by omega), fgI_o (by omega) (by omega)])
  · rw [setL_n (by decide), setL_s, q_fill, if_pos hk]; rfl
  · rw [setL_s, q_fill, if_pos ha]; rfl
  · rw [setI_s, q_fill, if_pos hx]; rfl
  · rw [oF 0 (by omega) (by decide) (by decide) (by decide)]; exact e
  · exact shC_c a0 (by rw [oF 0 (by omega) (by decide) (by decide) (by decide)]) (fun q a b => oF q (by omega) (by omega) (by omega) (by omega))
  · exact shC_c a1 (by rw [oF 0 (by omega) (by decide) (by decide) (by decide)]) (fun q a b => oF q (by omega) (by omega) (by omega) (by omega))
  · rw [oF 0 (by omega) (by decide) (by decide) (by decide)]; exact b
  · rw [oF 1 (by omega) (by decide) (by decide) (by decide)]; exact t1
  · rw [oF 2 (by omega) (by decide) (by decide) (by decide)]; exact t2
  · rw [setI_n (by decide)]; exact fgI_46
  · rw [setI_n (by decide)]; exact fgI_5
  · rw [setI_n (by decide)]; exact fgI_6
