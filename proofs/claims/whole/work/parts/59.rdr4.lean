/-! THE CLASS READS: lines, a text -/
theorem dO.cD {I I1 : amI} {n : Nat} {A : Nat → Int32} (h : dO I n A) (e10 : I1 10 0 = I 10 0) (e11 : I1 11 = I 11) : dO I1 n A := by
  unfold dO at h ⊢
  rw [e10, e11]
  exact h
/-- what reading a line leaves -/
def lcO (G : amG) (I : amI) (L : amL) (n : Nat) (R : Nat × (Nat → Int32) × Nat) : amP := fun r G1 I1 L1 => r = none ∧ G1 = G ∧ L1 = L ∧ frD I I1 ∧ (R.1 = 0 → I1 17 5 = 0 ∧ I1 17 3 = nI R.2.2 ∧ dO I1 n R.2.1) ∧ (¬ R.1 = 0 → I1 17 5 = nI R.1)
theorem blm_5 {I : amI} {a b : Int32} (h : I 17 5 = 0) : q_blm I a b 17 5 = 8 * a + b := by rw [q_blm, if_pos h, setI_s, upd_s]
theorem blm_fr {I : amI} {a b : Int32} : frC I (q_blm I a b) := by
  rw [q_blm]
  split
  · exact frC_17 (by omega)
  · exact frC_r
theorem n8_ne {a b : Nat} (ha : a ≤ 1000) (h1 : 1 ≤ b) (h2 : b ≤ 7) : ¬ nI (8 * a + b) = 0 := fun w => by
  have := (nI_eq (b := 0) (by omega) (by decide)).mp w
  omega
theorem rd_f {m lo hi k : Nat} {T : Nat → Int32} (hk : k ≤ m) : (rdN m T lo hi k).1 ≤ 8 * m + 2 := by
  obtain ⟨s1, s2⟩ := sk_le (m := m) (T := T) hk
  rw [rdN]
  split
  · have h2 : 8 * sk m T k + 2 ≤ 8 * m + 2 := by omega
    show (if _ then 0 else 8 * sk m T k + 2) ≤ _
    split
    · exact Nat.zero_le _
    · exact h2
  · show 8 * sk m T k + 1 ≤ _
    omega
set_option maxRecDepth 100000 in
set_option maxHeartbeats 4000000 in
theorem b_X6_readLine_0 {z : amZ} {post : amP} {G : amG} {I : amI} {L : amL} (hz : Go z cX6_readLine RX6 5 none 4 0 0 post) (hG : Lay G)  (h : ∃ (dq1 : Nat) (postq1 : amP), Nat.ble (dq1 + 1) 4 = true ∧ Mx (zL z) (zD z) (zB z) yX6_readElement cX6_readElement 2 (some .int) dq1 0 0 [.ref ((zB z).size + 17)] G I L postq1 ∧ ∀ (roq1 : Option Value) (Gq1 : amG) (Iq1 : amI) (Lq1 : amL), postq1 roq1 Gq1 Iq1 Lq1 → ∃ (rq1 : Int32), roq1 = some (.int rq1) ∧ Lay Gq1 ∧ Wx z 0 0 9 [(0, .ref ((zB z).size + 17)), (1, .int rq1), (2, .int 1), (3, .int 0)] [] Gq1 Iq1 Lq1) : Wx z 0 0 0 [(0, .ref ((zB z).size + 17))] [] G I L := by
  have hz1 := hz.1
  refine am_aload_n hz1 dX6_readLine_0 0 rfl rfl ?_
  obtain ⟨dq1, postq1, hdq1, hMq1, h⟩ := h
  refine am_callV hz1 cv_X6_111 [] [] hMq1 (ln_17 hG) (lk_17 hG) rfl rfl (hz.fr hdq1) (hz.lo hdq1) (by rw [hz.2.1]; exact ⟨Nat.le_refl _, Nat.le_refl _⟩) (Nat.le_of_ble_eq_true rfl) dX6_readLine_1 (fun roq1 Gq1 Iq1 Lq1 hpq1 => ?_)
  obtain ⟨rq1, rfl, hGq1, h⟩ := h roq1 Gq1 Iq1 Lq1 hpq1
  refine am_istore_n (lv' := [(1, .int rq1), (0, .ref ((zB z).size + 17))]) hz1 dX6_readLine_4 rfl rfl rfl ?_
  refine am_iconst (v := 1) hz1 dX6_readLine_5 (by decide) ?_
  refine am_istore_n (lv' := [(2, .int 1), (1, .int rq1), (0, .ref ((zB z).size + 17))]) hz1 dX6_readLine_6 rfl rfl rfl ?_
  refine am_iconst (v := 0) hz1 dX6_readLine_7 (by decide) ?_
  refine am_istore_n (lv' := [(3, .int 0), (2, .int 1), (1, .int rq1), (0, .ref ((zB z).size + 17))]) hz1 dX6_readLine_8 rfl rfl rfl ?_
  exact am_sub (lv' := [(0, .ref ((zB z).size + 17)), (1, .int rq1), (2, .int 1), (3, .int 0)]) [3, 2, 1, 0] rfl h
set_option maxRecDepth 100000 in
set_option maxHeartbeats 4000000 in
theorem b_X6_readLine_9 {z : amZ} {post : amP} {G : amG} {I : amI} {L : amL} (hz : Go z cX6_readLine RX6 5 none 4 0 0 post) (hG : Lay G) {v1 : Int32} {v2 : Int32} {v3 : Int32} (h : (((120 : Int32) < v3) → post none G I L) ∧ ((¬ (120 : Int32) < v3) → ((v2 = 0) → post none G I L) ∧ ((¬ v2 = 0) → ((¬ (I 17 5) = 0) → post none G I L) ∧ (((I 17 5) = 0) → (cOk I) ∧ ∃ (dq5 : Nat) (postq5 : amP), Nat.ble (dq5 + 1) 4 = true ∧ Mx (zL z) (zD z) (zB z) yX6_readElement cX6_readElement 2 (some .int) dq5 0 0 [.ref ((zB z).size + 17)] G (q_sgn I (60 : Int32)) L postq5 ∧ ∀ (roq5 : Option Value) (Gq5 : amG) (Iq5 : amI) (Lq5 : amL), postq5 roq5 Gq5 Iq5 Lq5 → ∃ (rq5 : Int32), roq5 = some (.int rq5) ∧ Lay Gq5 ∧ ((¬ (Iq5 17 5) = 0) → ((¬ (Iq5 17 5) = 0) → Wx z 0 0 9 [(0, .ref ((zB z).size + 17)), (1, .int v1), (2, .int v2), (3, .int (v3 + 1))] [] Gq5 Iq5 Lq5) ∧ (((Iq5 17 5) = 0) → (szOk Iq5 10) ∧ (cOk (q_link Iq5 10 v1 rq5)) ∧ (tpOk (skp (q_link Iq5 10 v1 rq5))) ∧ ((¬ (q_tat (skp (q_link Iq5 10 v1 rq5)) ((skp (q_link Iq5 10 v1 rq5)) 17 3)) = (60 : Int32)) → Wx z 0 0 9 [(0, .ref ((zB z).size + 17)), (1, .int rq5), (2, .int 0), (3, .int (v3 + 1))] [] Gq5 (skp (q_link Iq5 10 v1 rq5)) Lq5) ∧ (((q_tat (skp (q_link Iq5 10 v1 rq5)) ((skp (q_link Iq5 10 v1 rq5)) 17 3)) = (60 : Int32)) → Wx z 0 0 9 [(0, .ref ((zB z).size + 17)), (1, .int rq5), (2, .int 1), (3, .int (v3 + 1))] [] Gq5 (skp (q_link Iq5 10 v1 rq5)) Lq5))) ∧ (((Iq5 17 5) = 0) → (szOk Iq5 10) ∧ ((q_atMost Iq5 10 rq5 v1 = false) → ((¬ (Iq5 17 5) = 0) → Wx z 0 0 9 [(0, .ref ((zB z).size + 17)), (1, .int v1), (2, .int v2), (3, .int (v3 + 1))] [] Gq5 Iq5 Lq5) ∧ (((Iq5 17 5) = 0) → (szOk Iq5 10) ∧ (cOk (q_link Iq5 10 v1 rq5)) ∧ (tpOk (skp (q_link Iq5 10 v1 rq5))) ∧ ((¬ (q_tat (skp (q_link Iq5 10 v1 rq5)) ((skp (q_link Iq5 10 v1 rq5)) 17 3)) = (60 : Int32)) → Wx z 0 0 9 [(0, .ref ((zB z).size + 17)), (1, .int rq5), (2, .int 0), (3, .int (v3 + 1))] [] Gq5 (skp (q_link Iq5 10 v1 rq5)) Lq5) ∧ (((q_tat (skp (q_link Iq5 10 v1 rq5)) ((skp (q_link Iq5 10 v1 rq5)) 17 3)) = (60 : Int32)) → Wx z 0 0 9 [(0, .ref ((zB z).size + 17)), (1, .int rq5), (2, .int 1), (3, .int (v3 + 1))] [] Gq5 (skp (q_link Iq5 10 v1 rq5)) Lq5))) ∧ ((q_atMost Iq5 10 rq5 v1 = true) → ((¬ ((q_blm Iq5 (Iq5 17 4) (3 : Int32)) 17 5) = 0) → Wx z 0 0 9 [(0, .ref ((zB z).size + 17)), (1, .int v1), (2, .int v2), (3, .int (v3 + 1))] [] Gq5 (q_blm Iq5 (Iq5 17 4) (3 : Int32)) Lq5) ∧ ((((q_blm Iq5 (Iq5 17 4) (3 : Int32)) 17 5) = 0) → (szOk (q_blm Iq5 (Iq5 17 4) (3 : Int32)) 10) ∧ (cOk (q_link (q_blm Iq5 (Iq5 17 4) (3 : Int32)) 10 v1 rq5)) ∧ (tpOk (skp (q_link (q_blm Iq5 (Iq5 17 4) (3 : Int32)) 10 v1 rq5))) ∧ ((¬ (q_tat (skp (q_link (q_blm Iq5 (Iq5 17 4) (3 : Int32)) 10 v1 rq5)) ((skp (q_link (q_blm Iq5 (Iq5 17 4) (3 : Int32)) 10 v1 rq5)) 17 3)) = (60 : Int32)) → Wx z 0 0 9 [(0, .ref ((zB z).size + 17)), (1, .int rq5), (2, .int 0), (3, .int (v3 + 1))] [] Gq5 (skp (q_link (q_blm Iq5 (Iq5 17 4) (3 : Int32)) 10 v1 rq5)) Lq5) ∧ (((q_tat (skp (q_link (q_blm Iq5 (Iq5 17 4) (3 : Int32)) 10 v1 rq5)) ((skp (q_link (q_blm Iq5 (Iq5 17 4) (3 : Int32)) 10 v1 rq5)) 17 3)) = (60 : Int32)) → Wx z 0 0 9 [(0, .ref ((zB z).size + 17)), (1, .int rq5), (2, .int 1), (3, .int (v3 + 1))] [] Gq5 (skp (q_link (q_blm Iq5 (Iq5 17 4) (3 : Int32)) 10 v1 rq5)) Lq5)))))))) : Wx z 0 0 9 [(0, .ref ((zB z).size + 17)), (1, .int v1), (2, .int v2), (3, .int v3)] [] G I L := by
  have hz1 := hz.1
  refine am_iload_n hz1 dX6_readLine_9 3 rfl rfl ?_
  refine am_bipush (v := 120) hz1 dX6_readLine_10 (by decide) ?_
  refine am_icmp_gt (tgt := 119) hz1 dX6_readLine_12 (by decide) (fun c1 => ?_) (fun c1 => ?_)
  · replace h := h.1 c1
    exact am_return hz dX6_readLine_119 h
  · replace h := h.2 c1
    refine am_iload_n hz1 dX6_readLine_15 2 rfl rfl ?_
    refine am_if_eq (tgt := 119) hz1 dX6_readLine_16 (by decide) (fun c2 => ?_) (fun c2 => ?_)
    · replace h := h.1 c2
      exact am_return hz dX6_readLine_119 h
    · replace h := h.2 c2
      refine am_aload_n hz1 dX6_readLine_19 0 rfl rfl ?_
      refine am_getI hz1 fl_X6_27 (ln_17 hG) (lk_17 hG) rfl dX6_readLine_20 ?_
      refine am_if_ne (tgt := 119) hz1 dX6_readLine_23 (by decide) (fun c3 => ?_) (fun c3 => ?_)
      · replace h := h.1 c3
        exact am_return hz dX6_readLine_119 h
      · replace h := h.2 c3
        refine am_aload_n hz1 dX6_readLine_26 0 rfl rfl ?_
        refine am_bipush (v := 60) hz1 dX6_readLine_27 (by decide) ?_
        obtain ⟨g4, h⟩ := h
        refine am_cVf hz cv_X6_104 [.int 60] [] (c_X6_readSign hG (60 : Int32) g4) (ln_17 hG) (lk_17 hG) rfl rfl rfl ⟨Nat.le_refl _, Nat.le_refl _⟩ (Nat.le_of_ble_eq_true rfl) dX6_readLine_29 ?_
        refine am_aload_n hz1 dX6_readLine_32 0 rfl rfl ?_
        obtain ⟨dq5, postq5, hdq5, hMq5, h⟩ := h
        refine am_callV hz1 cv_X6_111 [] [] hMq5 (ln_17 hG) (lk_17 hG) rfl rfl (hz.fr hdq5) (hz.lo hdq5) (by rw [hz.2.1]; exact ⟨Nat.le_refl _, Nat.le_refl _⟩) (Nat.le_of_ble_eq_true rfl) dX6_readLine_33 (fun roq5 Gq5 Iq5 Lq5 hpq5 => ?_)
        obtain ⟨rq5, rfl, hGq5, h⟩ := h roq5 Gq5 Iq5 Lq5 hpq5
        refine am_istore (lv' := [(4, .int rq5), (0, .ref ((zB z).size + 17)), (1, .int v1), (2, .int v2), (3, .int v3)]) hz1 dX6_readLine_36 rfl rfl ?_
        refine am_aload_n hz1 dX6_readLine_38 1 rfl rfl ?_
        refine am_getI hz1 fl_X6_27 (ln_17 hGq5) (lk_17 hGq5) rfl dX6_readLine_39 ?_
        refine am_if_ne (tgt := 67) hz1 dX6_readLine_42 (by decide) (fun c6 => ?_) (fun c6 => ?_)
        · replace h := h.1 c6
          refine am_aload_n hz1 dX6_readLine_67 1 rfl rfl ?_
          refine am_getI hz1 fl_X6_27 (ln_17 hGq5) (lk_17 hGq5) rfl dX6_readLine_68 ?_
          refine am_if_ne (tgt := 113) hz1 dX6_readLine_71 (by decide) (fun c7 => ?_) (fun c7 => ?_)
          · replace h := h.1 c7
            refine am_iinc (v := v3 + 1) (lv' := [(3, .int (v3 + 1)), (4, .int rq5), (0, .ref ((zB z).size + 17)), (1, .int v1), (2, .int v2)]) hz1 dX6_readLine_113 4 rfl rfl rfl rfl ?_
            refine am_goto (tgt := 9) hz1 dX6_readLine_116 (by decide) ?_
            exact am_sub (lv' := [(0, .ref ((zB z).size + 17)), (1, .int v1), (2, .int v2), (3, .int (v3 + 1))]) [2, 3, 4, 0] rfl h
          · replace h := h.2 c7
            refine am_aload_n hz1 dX6_readLine_74 1 rfl rfl ?_
            refine am_getR hz1 fl_X6_19 (ln_17 hGq5) (lk_17 hGq5) (lr_17_1 hGq5) rfl dX6_readLine_75 ?_
            refine am_iload_n hz1 dX6_readLine_78 2 rfl rfl ?_
            refine am_iload hz1 dX6_readLine_79 0 rfl ?_
            obtain ⟨g8, h⟩ := h
            refine am_cVf hz cv_X6_119 [.int v1, .int rq5] [] (c_X4_link hGq5 isO_10 v1 rq5 g8) (ln_10 hGq5) (lk_10 hGq5) rfl rfl rfl ⟨Nat.le_refl _, Nat.le_refl _⟩ (Nat.le_of_ble_eq_true rfl) dX6_readLine_81 ?_
            refine am_iload hz1 dX6_readLine_84 0 rfl ?_
            refine am_istore_n (lv' := [(1, .int rq5), (4, .int rq5), (0, .ref ((zB z).size + 17)), (2, .int v2), (3, .int v3)]) hz1 dX6_readLine_86 rfl rfl rfl ?_
            refine am_aload_n hz1 dX6_readLine_87 2 rfl rfl ?_
            obtain ⟨g9, h⟩ := h
            refine am_cVf hz cv_X6_60 [] [] (c_X6_skipBlanks hGq5  g9) (ln_17 hGq5) (lk_17 hGq5) rfl rfl rfl ⟨Nat.le_refl _, Nat.le_refl _⟩ (Nat.le_of_ble_eq_true rfl) dX6_readLine_88 ?_
            refine am_aload_n hz1 dX6_readLine_91 2 rfl rfl ?_
            refine am_getR hz1 fl_X6_15 (ln_17 hGq5) (lk_17 hGq5) (lr_17_0 hGq5) rfl dX6_readLine_92 ?_
            refine am_aload_n hz1 dX6_readLine_95 2 rfl rfl ?_
            refine am_getI hz1 fl_X6_23 (ln_17 hGq5) (lk_17 hGq5) rfl dX6_readLine_96 ?_
            obtain ⟨g10, h⟩ := h
            refine am_cVf hz cv_X6_56 [.int ((skp (q_link Iq5 10 v1 rq5)) 17 3)] [] (c_X10_at hGq5 ((skp (q_link Iq5 10 v1 rq5)) 17 3) g10) (ln_1 hGq5) (lk_1 hGq5) rfl rfl rfl ⟨Nat.le_refl _, Nat.le_refl _⟩ (Nat.le_of_ble_eq_true rfl) dX6_readLine_99 ?_
            refine am_bipush (v := 60) hz1 dX6_readLine_102 (by decide) ?_
            refine am_icmp_ne (tgt := 111) hz1 dX6_readLine_104 (by decide) (fun c11 => ?_) (fun c11 => ?_)
            · replace h := h.1 c11
              refine am_iconst (v := 0) hz1 dX6_readLine_111 (by decide) ?_
              refine am_istore_n (lv' := [(2, .int 0), (1, .int rq5), (4, .int rq5), (0, .ref ((zB z).size + 17)), (3, .int v3)]) hz1 dX6_readLine_112 rfl rfl rfl ?_
              refine am_iinc (v := v3 + 1) (lv' := [(3, .int (v3 + 1)), (2, .int 0), (1, .int rq5), (4, .int rq5), (0, .ref ((zB z).size + 17))]) hz1 dX6_readLine_113 4 rfl rfl rfl rfl ?_
              refine am_goto (tgt := 9) hz1 dX6_readLine_116 (by decide) ?_
              exact am_sub (lv' := [(0, .ref ((zB z).size + 17)), (1, .int rq5), (2, .int 0), (3, .int (v3 + 1))]) [4, 2, 1, 0] rfl h
            · replace h := h.2 c11
              refine am_iconst (v := 1) hz1 dX6_readLine_107 (by decide) ?_
              refine am_goto (tgt := 112) hz1 dX6_readLine_108 (by decide) ?_
              refine am_istore_n (lv' := [(2, .int 1), (1, .int rq5), (4, .int rq5), (0, .ref ((zB z).size + 17)), (3, .int v3)]) hz1 dX6_readLine_112 rfl rfl rfl ?_
              refine am_iinc (v := v3 + 1) (lv' := [(3, .int (v3 + 1)), (2, .int 1), (1, .int rq5), (4, .int rq5), (0, .ref ((zB z).size + 17))]) hz1 dX6_readLine_113 4 rfl rfl rfl rfl ?_
              refine am_goto (tgt := 9) hz1 dX6_readLine_116 (by decide) ?_
              exact am_sub (lv' := [(0, .ref ((zB z).size + 17)), (1, .int rq5), (2, .int 1), (3, .int (v3 + 1))]) [4, 2, 1, 0] rfl h
        · replace h := h.2 c6
          refine am_aload_n hz1 dX6_readLine_45 1 rfl rfl ?_
          refine am_getR hz1 fl_X6_19 (ln_17 hGq5) (lk_17 hGq5) (lr_17_1 hGq5) rfl dX6_readLine_46 ?_
          refine am_iload hz1 dX6_readLine_49 0 rfl ?_
          refine am_iload_n hz1 dX6_readLine_51 2 rfl rfl ?_
          obtain ⟨g12, h⟩ := h
          refine am_cVf hz cv_X6_114 [.int rq5, .int v1] [] (c_X4_atMost hGq5 isO_10 rq5 v1 g12) (ln_10 hGq5) (lk_10 hGq5) rfl rfl rfl ⟨Nat.le_refl _, Nat.le_refl _⟩ (Nat.le_of_ble_eq_true rfl) dX6_readLine_52 ?_
          refine am_ifb_eq (tgt := 67) hz1 dX6_readLine_55 (by decide) (fun c13 => ?_) (fun c13 => ?_)
          · replace h := h.1 c13
            refine am_aload_n hz1 dX6_readLine_67 1 rfl rfl ?_
            refine am_getI hz1 fl_X6_27 (ln_17 hGq5) (lk_17 hGq5) rfl dX6_readLine_68 ?_
            refine am_if_ne (tgt := 113) hz1 dX6_readLine_71 (by decide) (fun c14 => ?_) (fun c14 => ?_)
            · replace h := h.1 c14
              refine am_iinc (v := v3 + 1) (lv' := [(3, .int (v3 + 1)), (4, .int rq5), (0, .ref ((zB z).size + 17)), (1, .int v1), (2, .int v2)]) hz1 dX6_readLine_113 4 rfl rfl rfl rfl ?_
              refine am_goto (tgt := 9) hz1 dX6_readLine_116 (by decide) ?_
              exact am_sub (lv' := [(0, .ref ((zB z).size + 17)), (1, .int v1), (2, .int v2), (3, .int (v3 + 1))]) [2, 3, 4, 0] rfl h
            · replace h := h.2 c14
              refine am_aload_n hz1 dX6_readLine_74 1 rfl rfl ?_
              refine am_getR hz1 fl_X6_19 (ln_17 hGq5) (lk_17 hGq5) (lr_17_1 hGq5) rfl dX6_readLine_75 ?_
              refine am_iload_n hz1 dX6_readLine_78 2 rfl rfl ?_
              refine am_iload hz1 dX6_readLine_79 0 rfl ?_
              obtain ⟨g15, h⟩ := h
              refine am_cVf hz cv_X6_119 [.int v1, .int rq5] [] (c_X4_link hGq5 isO_10 v1 rq5 g15) (ln_10 hGq5) (lk_10 hGq5) rfl rfl rfl ⟨Nat.le_refl _, Nat.le_refl _⟩ (Nat.le_of_ble_eq_true rfl) dX6_readLine_81 ?_
              refine am_iload hz1 dX6_readLine_84 0 rfl ?_
              refine am_istore_n (lv' := [(1, .int rq5), (4, .int rq5), (0, .ref ((zB z).size + 17)), (2, .int v2), (3, .int v3)]) hz1 dX6_readLine_86 rfl rfl rfl ?_
              refine am_aload_n hz1 dX6_readLine_87 2 rfl rfl ?_
              obtain ⟨g16, h⟩ := h
              refine am_cVf hz cv_X6_60 [] [] (c_X6_skipBlanks hGq5  g16) (ln_17 hGq5) (lk_17 hGq5) rfl rfl rfl ⟨Nat.le_refl _, Nat.le_refl _⟩ (Nat.le_of_ble_eq_true rfl) dX6_readLine_88 ?_
              refine am_aload_n hz1 dX6_readLine_91 2 rfl rfl ?_
              refine am_getR hz1 fl_X6_15 (ln_17 hGq5) (lk_17 hGq5) (lr_17_0 hGq5) rfl dX6_readLine_92 ?_
              refine am_aload_n hz1 dX6_readLine_95 2 rfl rfl ?_
              refine am_getI hz1 fl_X6_23 (ln_17 hGq5) (lk_17 hGq5) rfl dX6_readLine_96 ?_
              obtain ⟨g17, h⟩ := h
              refine am_cVf hz cv_X6_56 [.int ((skp (q_link Iq5 10 v1 rq5)) 17 3)] [] (c_X10_at hGq5 ((skp (q_link Iq5 10 v1 rq5)) 17 3) g17) (ln_1 hGq5) (lk_1 hGq5) rfl rfl rfl ⟨Nat.le_refl _, Nat.le_refl _⟩ (Nat.le_of_ble_eq_true rfl) dX6_readLine_99 ?_
              refine am_bipush (v := 60) hz1 dX6_readLine_102 (by decide) ?_
              refine am_icmp_ne (tgt := 111) hz1 dX6_readLine_104 (by decide) (fun c18 => ?_) (fun c18 => ?_)
              · replace h := h.1 c18
                refine am_iconst (v := 0) hz1 dX6_readLine_111 (by decide) ?_
                refine am_istore_n (lv' := [(2, .int 0), (1, .int rq5), (4, .int rq5), (0, .ref ((zB z).size + 17)), (3, .int v3)]) hz1 dX6_readLine_112 rfl rfl rfl ?_
                refine am_iinc (v := v3 + 1) (lv' := [(3, .int (v3 + 1)), (2, .int 0), (1, .int rq5), (4, .int rq5), (0, .ref ((zB z).size + 17))]) hz1 dX6_readLine_113 4 rfl rfl rfl rfl ?_
                refine am_goto (tgt := 9) hz1 dX6_readLine_116 (by decide) ?_
                exact am_sub (lv' := [(0, .ref ((zB z).size + 17)), (1, .int rq5), (2, .int 0), (3, .int (v3 + 1))]) [4, 2, 1, 0] rfl h
              · replace h := h.2 c18
                refine am_iconst (v := 1) hz1 dX6_readLine_107 (by decide) ?_
                refine am_goto (tgt := 112) hz1 dX6_readLine_108 (by decide) ?_
                refine am_istore_n (lv' := [(2, .int 1), (1, .int rq5), (4, .int rq5), (0, .ref ((zB z).size + 17)), (3, .int v3)]) hz1 dX6_readLine_112 rfl rfl rfl ?_
                refine am_iinc (v := v3 + 1) (lv' := [(3, .int (v3 + 1)), (2, .int 1), (1, .int rq5), (4, .int rq5), (0, .ref ((zB z).size + 17))]) hz1 dX6_readLine_113 4 rfl rfl rfl rfl ?_
                refine am_goto (tgt := 9) hz1 dX6_readLine_116 (by decide) ?_
                exact am_sub (lv' := [(0, .ref ((zB z).size + 17)), (1, .int rq5), (2, .int 1), (3, .int (v3 + 1))]) [4, 2, 1, 0] rfl h
          · replace h := h.2 c13
            refine am_aload_n hz1 dX6_readLine_58 1 rfl rfl ?_
            refine am_aload_n hz1 dX6_readLine_59 1 rfl rfl ?_
            refine am_getI hz1 fl_X6_41 (ln_17 hGq5) (lk_17 hGq5) rfl dX6_readLine_60 ?_
            refine am_iconst (v := 3) hz1 dX6_readLine_63 (by decide) ?_
            refine am_cVf hz cv_X6_44 [.int (Iq5 17 4), .int 3] [] (c_X6_blame hGq5 (Iq5 17 4) (3 : Int32) ) (ln_17 hGq5) (lk_17 hGq5) rfl rfl rfl ⟨Nat.le_refl _, Nat.le_refl _⟩ (Nat.le_of_ble_eq_true rfl) dX6_readLine_64 ?_
            refine am_aload_n hz1 dX6_readLine_67 1 rfl rfl ?_
            refine am_getI hz1 fl_X6_27 (ln_17 hGq5) (lk_17 hGq5) rfl dX6_readLine_68 ?_
            refine am_if_ne (tgt := 113) hz1 dX6_readLine_71 (by decide) (fun c19 => ?_) (fun c19 => ?_)
            · replace h := h.1 c19
              refine am_iinc (v := v3 + 1) (lv' := [(3, .int (v3 + 1)), (4, .int rq5), (0, .ref ((zB z).size + 17)), (1, .int v1), (2, .int v2)]) hz1 dX6_readLine_113 4 rfl rfl rfl rfl ?_
              refine am_goto (tgt := 9) hz1 dX6_readLine_116 (by decide) ?_
              exact am_sub (lv' := [(0, .ref ((zB z).size + 17)), (1, .int v1), (2, .int v2), (3, .int (v3 + 1))]) [2, 3, 4, 0] rfl h
            · replace h := h.2 c19
              refine am_aload_n hz1 dX6_readLine_74 1 rfl rfl ?_
              refine am_getR hz1 fl_X6_19 (ln_17 hGq5) (lk_17 hGq5) (lr_17_1 hGq5) rfl dX6_readLine_75 ?_
              refine am_iload_n hz1 dX6_readLine_78 2 rfl rfl ?_
              refine am_iload hz1 dX6_readLine_79 0 rfl ?_
              obtain ⟨g20, h⟩ := h
              refine am_cVf hz cv_X6_119 [.int v1, .int rq5] [] (c_X4_link hGq5 isO_10 v1 rq5 g20) (ln_10 hGq5) (lk_10 hGq5) rfl rfl rfl ⟨Nat.le_refl _, Nat.le_refl _⟩ (Nat.le_of_ble_eq_true rfl) dX6_readLine_81 ?_
              refine am_iload hz1 dX6_readLine_84 0 rfl ?_
              refine am_istore_n (lv' := [(1, .int rq5), (4, .int rq5), (0, .ref ((zB z).size + 17)), (2, .int v2), (3, .int v3)]) hz1 dX6_readLine_86 rfl rfl rfl ?_
              refine am_aload_n hz1 dX6_readLine_87 2 rfl rfl ?_
              obtain ⟨g21, h⟩ := h
              refine am_cVf hz cv_X6_60 [] [] (c_X6_skipBlanks hGq5  g21) (ln_17 hGq5) (lk_17 hGq5) rfl rfl rfl ⟨Nat.le_refl _, Nat.le_refl _⟩ (Nat.le_of_ble_eq_true rfl) dX6_readLine_88 ?_
              refine am_aload_n hz1 dX6_readLine_91 2 rfl rfl ?_
              refine am_getR hz1 fl_X6_15 (ln_17 hGq5) (lk_17 hGq5) (lr_17_0 hGq5) rfl dX6_readLine_92 ?_
              refine am_aload_n hz1 dX6_readLine_95 2 rfl rfl ?_
              refine am_getI hz1 fl_X6_23 (ln_17 hGq5) (lk_17 hGq5) rfl dX6_readLine_96 ?_
              obtain ⟨g22, h⟩ := h
              refine am_cVf hz cv_X6_56 [.int ((skp (q_link (q_blm Iq5 (Iq5 17 4) (3 : Int32)) 10 v1 rq5)) 17 3)] [] (c_X10_at hGq5 ((skp (q_link (q_blm Iq5 (Iq5 17 4) (3 : Int32)) 10 v1 rq5)) 17 3) g22) (ln_1 hGq5) (lk_1 hGq5) rfl rfl rfl ⟨Nat.le_refl _, Nat.le_refl _⟩ (Nat.le_of_ble_eq_true rfl) dX6_readLine_99 ?_
              refine am_bipush (v := 60) hz1 dX6_readLine_102 (by decide) ?_
              refine am_icmp_ne (tgt := 111) hz1 dX6_readLine_104 (by decide) (fun c23 => ?_) (fun c23 => ?_)
              · replace h := h.1 c23
                refine am_iconst (v := 0) hz1 dX6_readLine_111 (by decide) ?_
                refine am_istore_n (lv' := [(2, .int 0), (1, .int rq5), (4, .int rq5), (0, .ref ((zB z).size + 17)), (3, .int v3)]) hz1 dX6_readLine_112 rfl rfl rfl ?_
                refine am_iinc (v := v3 + 1) (lv' := [(3, .int (v3 + 1)), (2, .int 0), (1, .int rq5), (4, .int rq5), (0, .ref ((zB z).size + 17))]) hz1 dX6_readLine_113 4 rfl rfl rfl rfl ?_
                refine am_goto (tgt := 9) hz1 dX6_readLine_116 (by decide) ?_
                exact am_sub (lv' := [(0, .ref ((zB z).size + 17)), (1, .int rq5), (2, .int 0), (3, .int (v3 + 1))]) [4, 2, 1, 0] rfl h
              · replace h := h.2 c23
                refine am_iconst (v := 1) hz1 dX6_readLine_107 (by decide) ?_
                refine am_goto (tgt := 112) hz1 dX6_readLine_108 (by decide) ?_
                refine am_istore_n (lv' := [(2, .int 1), (1, .int rq5), (4, .int rq5), (0, .ref ((zB z).size + 17)), (3, .int v3)]) hz1 dX6_readLine_112 rfl rfl rfl ?_
                refine am_iinc (v := v3 + 1) (lv' := [(3, .int (v3 + 1)), (2, .int 1), (1, .int rq5), (4, .int rq5), (0, .ref ((zB z).size + 17))]) hz1 dX6_readLine_113 4 rfl rfl rfl rfl ?_
                refine am_goto (tgt := 9) hz1 dX6_readLine_116 (by decide) ?_
                exact am_sub (lv' := [(0, .ref ((zB z).size + 17)), (1, .int rq5), (2, .int 1), (3, .int (v3 + 1))]) [4, 2, 1, 0] rfl h
set_option maxRecDepth 100000 in
set_option maxHeartbeats 4000000 in
theorem c_X6_readLine {l : Launch} {D : va_G} {B : Heap} {G : amG} {I : amI} {L : amL}  (hG : Lay G)   {m a n : Nat} {T A : Nat → Int32} (hT : rdV I m T a) (h5 : I 17 5 = 0) (hD : dO I n A) : Mx l D B yX6_readLine cX6_readLine 5 none 4 0 0 [.ref (B.size + 17)] G I L (lcO G I L n (lnW m T n A a)) := by
  refine Mx.of (by decide) rfl rfl (fun z e1 e2 e3 hz => ?_)
  subst e1; subst e2; subst e3
  refine b_X6_readLine_0 hz hG ?_
  have hm := hT.1
  have ha := hT.2.2.2.2.1
  have h1 := hD.2.1
  have h16 := hD.2.2.1
  have exitW : ∀ (X : amI) (u1 u2 u3 : Int32), ¬ X 17 5 = 0 → lcO G I L n (lnW m T n A a) none G X L → Wx z 0 0 9 [(0, .ref ((zB z).size + 17)), (1, .int u1), (2, .int u2), (3, .int u3)] [] G X L := fun X u1 u2 u3 hx hp => b_X6_readLine_9 hz hG ⟨fun _ => hp, fun _ => ⟨fun _ => hp, fun _ => ⟨fun _ => hp, fun w => absurd w hx⟩⟩⟩
  refine ⟨3, _, rfl, c_X6_readElement hG hT h5 hD, fun ro G2 I2 L2 ⟨e1, e2, e3, ⟨x, e4, e5⟩, e6, e7⟩ => ⟨_, e4, by rw [e1]; exact hG, ?_⟩⟩
  rw [e1, e2]
  by_cases q : (rdN m T 0 (n - 1) a).1 = 0
  · obtain ⟨c5, c3, c4⟩ := e6 q
    obtain ⟨v1, v2⟩ := rd_v q
    obtain ⟨r1, r2, r3⟩ := rd_le (lo := 0) (hi := n - 1) (T := T) ha
    have hW : lnW m T n A a = lnP m T n (m + 1) A (rdN m T 0 (n - 1) a).2.1 (rdN m T 0 (n - 1) a).2.2.2 := by rw [lnW, if_pos q]
    rw [e5 q]
    generalize lnW m T n A a = Rw at *
    have main : ∀ f (A : Nat → Int32) low k c (X : amI), m - k < f → k ≤ m → c ≤ k → low < n → frD I X → X 17 3 = nI k → X 17 5 = 0 → dO X n A → lnP m T n f A low k = Rw → Wx z 0 0 9 [(0, .ref ((zB z).size + 17)), (1, .int (nI low)), (2, .int 1), (3, .int (nI c))] [] G X L := by
      intro f
      induction f with
      | zero => intro A low k c X g; omega
      | succ f ih =>
        intro A low k c X g gk gc gl gf g3 g5 gD gR
        have gP := gD.2.2.2.2.2
        have hX : rdV X m T k := hT.mv gf g3 gk
        have hXn := hX.nx
        obtain ⟨s1, s2⟩ := sk_le (m := m) (T := T) gk
        rw [lnP] at gR
        refine b_X6_readLine_9 hz hG ⟨fun w => absurd ((nI_ltI (a := 120) (by decide) (by omega)).mp w) (by omega), fun _ => ⟨fun w => absurd w (by decide), fun _ => ⟨fun w => absurd g5 w, fun _ => ⟨hX.ok, ?_⟩⟩⟩⟩
        rw [nI_1]
        have hsg : q_sgn X 60 = if tb m T (sk m T k) = 60 then setI (skp X) 17 (upd (skp X 17) 3 (nI (sk m T k + 1))) else q_blm (skp X) (nI (sk m T k)) 1 := by
          rw [q_sgn, hXn.2.2.2.1, hXn.byte (by omega), nI_1]
        have n5 : skp X 17 5 = 0 := by rw [skp_5]; exact g5
        by_cases w : tb m T (sk m T k) = 60
        · rw [if_pos w] at hsg
          rw [hsg]
          have hlt := tb_lt w (by decide)
          rw [if_pos w] at gR
          have hYf : frC X (setI (skp X) 17 (upd (skp X 17) 3 (nI (sk m T k + 1)))) := frC_t skp_fr (frC_17 (by omega))
          have hY : rdV (setI (skp X) 17 (upd (skp X 17) 3 (nI (sk m T k + 1)))) m T (sk m T k + 1) := hX.mv hYf.D (by rw [setI_s, upd_s]) hlt
          have y5 : setI (skp X) 17 (upd (skp X 17) 3 (nI (sk m T k + 1))) 17 5 = 0 := by rw [setI_s, upd_n (by decide)]; exact n5
          refine ⟨3, _, rfl, c_X6_readElement hG hY y5 (gD.c hYf), fun ro G3 I3 L3 ⟨d1, d2, d3, ⟨x3, d4, d5⟩, d6, d7⟩ => ⟨_, d4, by rw [d1]; exact hG, ?_⟩⟩
          rw [d1, d2]
          have hf3 : frD I I3 := frD_t gf (frC_t hYf d3).D
          have hD3 : dO I3 n A := (gD.c hYf).c d3
          have hrf := rd_f (lo := 0) (hi := n - 1) (T := T) (show sk m T k + 1 ≤ m from hlt)
          by_cases q3 : (rdN m T 0 (n - 1) (sk m T k + 1)).1 = 0
          · rw [if_pos q3] at gR
            obtain ⟨b5, b3, b4⟩ := d6 q3
            obtain ⟨u1, u2⟩ := rd_v q3
            obtain ⟨p1, p2, p3⟩ := rd_le (lo := 0) (hi := n - 1) (T := T) (show sk m T k + 1 ≤ m from hlt)
            rw [d5 q3]
            generalize hv : (rdN m T 0 (n - 1) (sk m T k + 1)).2.1 = v at *
            generalize hq : (rdN m T 0 (n - 1) (sk m T k + 1)).2.2.2 = qe at *
            generalize hpb : (rdN m T 0 (n - 1) (sk m T k + 1)).2.2.1 = pb at *
            have hvn : v < n := by omega
            refine ⟨fun w2 => absurd b5 w2, fun _ => ⟨hD3.sz, ?_⟩⟩
            rw [hD3.am hvn gl]
            refine ⟨fun w2 => ⟨fun w3 => absurd b5 w3, fun _ => ?_⟩, fun w2 => ?_⟩
            · rw [if_neg (by rw [w2]; decide)] at gR
              have hDl := hD3.link gl hvn w2
              have hZf : frD I (q_link I3 10 (nI low) (nI v)) := frD_t hf3 link_fr
              have z17 : q_link I3 10 (nI low) (nI v) 17 = I3 17 := by rw [q_link, setI_n (by decide)]
              generalize q_link I3 10 (nI low) (nI v) = Z at *
              have hZt : rdV Z m T qe := hT.mv hZf (by rw [z17]; exact b3) p3
              have hZn := hZt.nx
              obtain ⟨t1, t2⟩ := sk_le (m := m) (T := T) p3
              have s5 : skp Z 17 5 = 0 := by rw [skp_5, z17]; exact b5
              rw [hZn.2.2.2.1, hZn.byte (by omega)]
              refine ⟨hD3.sz, hZt.ok, hZn.tp, fun w4 => ?_, fun w4 => ?_⟩
              · rw [if_neg w4] at gR
                have fin : lcO G I L n Rw none G (skp Z) L := by
                  rw [← gR]
                  exact ⟨rfl, rfl, rfl, frD_t hZf skp_fr.D, fun _ => ⟨s5, hZn.2.2.2.1, hDl.c skp_fr⟩, fun x => absurd rfl x⟩
                exact b_X6_readLine_9 hz hG ⟨fun _ => fin, fun _ => ⟨fun _ => fin, fun x => absurd rfl x⟩⟩
              · rw [if_pos w4] at gR
                exact ih _ v _ (c + 1) (skp Z) (by omega) t2 (by omega) hvn (frD_t hZf skp_fr.D) hZn.2.2.2.1 s5 (hDl.c skp_fr) gR
            · rw [if_pos w2] at gR
              have hb5 : q_blm I3 (I3 17 4) 3 17 5 = nI (8 * pb + 3) := by rw [blm_5 b5, b4]; exact n8 pb 3
              have hne : ¬ q_blm I3 (I3 17 4) 3 17 5 = 0 := by rw [hb5]; exact n8_ne (by omega) (by decide) (by decide)
              refine ⟨fun _ => exitW _ _ _ _ hne ?_, fun x => absurd x hne⟩
              rw [← gR]
              exact ⟨rfl, rfl, rfl, frD_t hf3 blm_fr.D, fun x => absurd x (by show ¬ 8 * pb + 3 = 0; omega), fun _ => hb5⟩
          · rw [if_neg q3] at gR
            have hne : ¬ I3 17 5 = 0 := by
              rw [d7 q3]
              intro x
              exact q3 ((nI_eq (b := 0) (by omega) (by decide)).mp x)
            refine ⟨fun _ => ⟨fun _ => exitW _ _ _ _ hne ?_, fun x => absurd x hne⟩, fun x => absurd x hne⟩
            rw [← gR]
            exact ⟨rfl, rfl, rfl, hf3, fun x => absurd x q3, fun _ => d7 q3⟩
        · rw [if_neg w] at hsg
          rw [hsg]
          rw [if_neg w] at gR
          have hb5 : q_blm (skp X) (nI (sk m T k)) 1 17 5 = nI (8 * sk m T k + 1) := by rw [blm_5 n5]; exact n8 _ 1
          have hne : ¬ q_blm (skp X) (nI (sk m T k)) 1 17 5 = 0 := by rw [hb5]; exact n8_ne (by omega) (by decide) (by decide)
          refine ⟨3, _, rfl, c_X6_readElementF hG hne, fun ro G3 I3 L3 ⟨d1, d2, d3, d4⟩ => ⟨_, d1, by rw [d2]; exact hG, ?_⟩⟩
          rw [d2, d3, d4]
          refine ⟨fun _ => ⟨fun _ => exitW _ _ _ _ hne ?_, fun x => absurd x hne⟩, fun x => absurd x hne⟩
          rw [← gR]
          exact ⟨rfl, rfl, rfl, frD_t gf (frC_t skp_fr blm_fr).D, fun x => absurd x (by show ¬ 8 * sk m T k + 1 = 0; omega), fun _ => hb5⟩
    exact main (m + 1) A _ _ 0 I2 (by omega) r3 (Nat.zero_le _) (by omega) e3.D c3 c5 (hD.c e3) hW.symm
  · have hW : lnW m T n A a = ((rdN m T 0 (n - 1) a).1, A, a) := by rw [lnW, if_neg q]
    have hrf := rd_f (lo := 0) (hi := n - 1) (T := T) ha
    have hne : ¬ I2 17 5 = 0 := by
      rw [e7 q]
      intro x
      exact q ((nI_eq (b := 0) (by omega) (by decide)).mp x)
    refine exitW _ _ _ _ hne ?_
    rw [hW]
    exact ⟨rfl, rfl, rfl, e3.D, fun x => absurd x q, fun _ => e7 q⟩
set_option maxHeartbeats 4000000 in
theorem c_X6_readLineF {l : Launch} {D : va_G} {B : Heap} {G : amG} {I : amI} {L : amL} (hG : Lay G) (h5 : ¬ I 17 5 = 0) : Fx l D B yX6_readLine cX6_readLine 5 none 4 [.ref (B.size + 17)] G I L none I L := by
  refine Mx.of (by decide) rfl rfl (fun z e1 e2 e3 hz => ?_)
  subst e1; subst e2; subst e3
  refine b_X6_readLine_0 hz hG ⟨3, _, rfl, c_X6_readElementF hG h5, fun ro G3 I3 L3 ⟨d1, d2, d3, d4⟩ => ⟨_, d1, by rw [d2]; exact hG, ?_⟩⟩
  rw [d2, d3, d4]
  have fin : (none : Option Value) = none ∧ G = G ∧ I = I ∧ L = L := ⟨rfl, rfl, rfl, rfl⟩
  exact b_X6_readLine_9 hz hG ⟨fun _ => fin, fun _ => ⟨fun _ => fin, fun _ => ⟨fun _ => fin, fun w => absurd w h5⟩⟩⟩
/-- what reading lines leaves -/
def lsO (G : amG) (I : amI) (L : amL) (n : Nat) (R : Nat × (Nat → Int32)) : amP := fun r G1 I1 L1 => r = none ∧ G1 = G ∧ L1 = L ∧ frD I I1 ∧ (R.1 = 0 → I1 17 5 = 0 ∧ dO I1 n R.2) ∧ (¬ R.1 = 0 → I1 17 5 = nI R.1)
theorem lnP_f {m n : Nat} {T : Nat → Int32} : ∀ f (A : Nat → Int32) low k, k ≤ m → (lnP m T n f A low k).1 ≤ 8 * m + 3
  | 0, A, low, k, hk => Nat.zero_le _
  | f + 1, A, low, k, hk => by
    obtain ⟨s1, s2⟩ := sk_le (m := m) (T := T) hk
    rw [lnP]
    by_cases e : tb m T (sk m T k) = 60
    · rw [if_pos e]
      have hlt := tb_lt e (by decide)
      have hrf := rd_f (lo := 0) (hi := n - 1) (T := T) (show sk m T k + 1 ≤ m from hlt)
      obtain ⟨r1, r2, r3⟩ := rd_le (lo := 0) (hi := n - 1) (T := T) (show sk m T k + 1 ≤ m from hlt)
      obtain ⟨t1, t2⟩ := sk_le (m := m) (T := T) r3
      by_cases e2 : (rdN m T 0 (n - 1) (sk m T k + 1)).1 = 0
      · rw [if_pos e2]
        by_cases e3 : le A (rdN m T 0 (n - 1) (sk m T k + 1)).2.1 low = true
        · rw [if_pos e3]; show 8 * _ + 3 ≤ _; omega
        · rw [if_neg e3]
          by_cases e4 : tb m T (sk m T (rdN m T 0 (n - 1) (sk m T k + 1)).2.2.2) = 60
          · rw [if_pos e4]; exact lnP_f f _ _ _ t2
          · rw [if_neg e4]; exact Nat.zero_le _
      · rw [if_neg e2]; show (rdN m T 0 (n - 1) (sk m T k + 1)).1 ≤ _; omega
    · rw [if_neg e]; show 8 * sk m T k + 1 ≤ _; omega
theorem lnW_f {m n a : Nat} {T A : Nat → Int32} (ha : a ≤ m) : (lnW m T n A a).1 ≤ 8 * m + 3 := by
  have hrf := rd_f (lo := 0) (hi := n - 1) (T := T) ha
  obtain ⟨r1, r2, r3⟩ := rd_le (lo := 0) (hi := n - 1) (T := T) ha
  rw [lnW]
  split
  · exact lnP_f _ _ _ _ r3
  · show (rdN m T 0 (n - 1) a).1 ≤ _; omega
set_option maxRecDepth 100000 in
set_option maxHeartbeats 4000000 in
theorem b_X6_readLines_0 {z : amZ} {post : amP} {G : amG} {I : amI} {L : amL} (hz : Go z cX6_readLines RX6 2 none 5 0 0 post) (hG : Lay G)  (h : Wx z 0 0 2 [(0, .ref ((zB z).size + 17)), (1, .int 0)] [] G I L) : Wx z 0 0 0 [(0, .ref ((zB z).size + 17))] [] G I L := by
  have hz1 := hz.1
  refine am_iconst (v := 0) hz1 dX6_readLines_0 (by decide) ?_
  refine am_istore_n (lv' := [(1, .int 0), (0, .ref ((zB z).size + 17))]) hz1 dX6_readLines_1 rfl rfl rfl ?_
  exact am_sub (lv' := [(0, .ref ((zB z).size + 17)), (1, .int 0)]) [1, 0] rfl h
set_option maxRecDepth 100000 in
set_option maxHeartbeats 4000000 in
theorem b_X6_readLines_2 {z : amZ} {post : amP} {G : amG} {I : amI} {L : amL} (hz : Go z cX6_readLines RX6 2 none 5 0 0 post) (hG : Lay G) {v1 : Int32} (h : (((120 : Int32) < v1) → post none G I L) ∧ ((¬ (120 : Int32) < v1) → ((¬ (I 17 5) = 0) → post none G I L) ∧ (((I 17 5) = 0) → (cOk I) ∧ ((((skp I) 17 3) < ((skp I) 1 1)) → (cOk (skp I)) ∧ ∃ (dq6 : Nat) (postq6 : amP), Nat.ble (dq6 + 1) 5 = true ∧ Mx (zL z) (zD z) (zB z) yX6_readLine cX6_readLine 5 none dq6 0 0 [.ref ((zB z).size + 17)] G (q_sgn (skp I) (59 : Int32)) L postq6 ∧ ∀ (roq6 : Option Value) (Gq6 : amG) (Iq6 : amI) (Lq6 : amL), postq6 roq6 Gq6 Iq6 Lq6 → roq6 = none ∧ Lay Gq6 ∧ Wx z 0 0 2 [(0, .ref ((zB z).size + 17)), (1, .int (v1 + 1))] [] Gq6 Iq6 Lq6) ∧ ((¬ ((skp I) 17 3) < ((skp I) 1 1)) → post none G (skp I) L)))) : Wx z 0 0 2 [(0, .ref ((zB z).size + 17)), (1, .int v1)] [] G I L := by
  have hz1 := hz.1
  refine am_iload_n hz1 dX6_readLines_2 1 rfl rfl ?_
  refine am_bipush (v := 120) hz1 dX6_readLines_3 (by decide) ?_
  refine am_icmp_gt (tgt := 50) hz1 dX6_readLines_5 (by decide) (fun c1 => ?_) (fun c1 => ?_)
  · replace h := h.1 c1
    exact am_return hz dX6_readLines_50 h
  · replace h := h.2 c1
    refine am_aload_n hz1 dX6_readLines_8 0 rfl rfl ?_
    refine am_getI hz1 fl_X6_27 (ln_17 hG) (lk_17 hG) rfl dX6_readLines_9 ?_
    refine am_if_ne (tgt := 50) hz1 dX6_readLines_12 (by decide) (fun c2 => ?_) (fun c2 => ?_)
    · replace h := h.1 c2
      exact am_return hz dX6_readLines_50 h
    · replace h := h.2 c2
      refine am_aload_n hz1 dX6_readLines_15 0 rfl rfl ?_
      obtain ⟨g3, h⟩ := h
      refine am_cVf hz cv_X6_60 [] [] (c_X6_skipBlanks hG  g3) (ln_17 hG) (lk_17 hG) rfl rfl rfl ⟨Nat.le_refl _, Nat.le_refl _⟩ (Nat.le_of_ble_eq_true rfl) dX6_readLines_16 ?_
      refine am_aload_n hz1 dX6_readLines_19 0 rfl rfl ?_
      refine am_getI hz1 fl_X6_23 (ln_17 hG) (lk_17 hG) rfl dX6_readLines_20 ?_
      refine am_aload_n hz1 dX6_readLines_23 0 rfl rfl ?_
      refine am_getR hz1 fl_X6_15 (ln_17 hG) (lk_17 hG) (lr_17_0 hG) rfl dX6_readLines_24 ?_
      refine am_getI hz1 fl_X6_51 (ln_1 hG) (lk_1 hG) rfl dX6_readLines_27 ?_
      refine am_icmp_lt (tgt := 34) hz1 dX6_readLines_30 (by decide) (fun c4 => ?_) (fun c4 => ?_)
      · replace h := h.1 c4
        refine am_aload_n hz1 dX6_readLines_34 0 rfl rfl ?_
        refine am_bipush (v := 59) hz1 dX6_readLines_35 (by decide) ?_
        obtain ⟨g5, h⟩ := h
        refine am_cVf hz cv_X6_104 [.int 59] [] (c_X6_readSign hG (59 : Int32) g5) (ln_17 hG) (lk_17 hG) rfl rfl rfl ⟨Nat.le_refl _, Nat.le_refl _⟩ (Nat.le_of_ble_eq_true rfl) dX6_readLines_37 ?_
        refine am_aload_n hz1 dX6_readLines_40 0 rfl rfl ?_
        obtain ⟨dq6, postq6, hdq6, hMq6, h⟩ := h
        refine am_callV hz1 cv_X6_108 [] [] hMq6 (ln_17 hG) (lk_17 hG) rfl rfl (hz.fr hdq6) (hz.lo hdq6) (by rw [hz.2.1]; exact ⟨Nat.le_refl _, Nat.le_refl _⟩) (Nat.le_of_ble_eq_true rfl) dX6_readLines_41 (fun roq6 Gq6 Iq6 Lq6 hpq6 => ?_)
        obtain ⟨rfl, hGq6, h⟩ := h roq6 Gq6 Iq6 Lq6 hpq6
        refine am_iinc (v := v1 + 1) (lv' := [(1, .int (v1 + 1)), (0, .ref ((zB z).size + 17))]) hz1 dX6_readLines_44 1 rfl rfl rfl rfl ?_
        refine am_goto (tgt := 2) hz1 dX6_readLines_47 (by decide) ?_
        exact am_sub (lv' := [(0, .ref ((zB z).size + 17)), (1, .int (v1 + 1))]) [1, 0] rfl h
      · replace h := h.2 c4
        exact am_return hz dX6_readLines_33 h
set_option maxRecDepth 100000 in
set_option maxHeartbeats 4000000 in
theorem c_X6_readLines {l : Launch} {D : va_G} {B : Heap} {G : amG} {I : amI} {L : amL}  (hG : Lay G)   {m a n : Nat} {T A : Nat → Int32} (hT : rdV I m T a) (h5 : I 17 5 = 0) (hD : dO I n A) : Mx l D B yX6_readLines cX6_readLines 2 none 5 0 0 [.ref (B.size + 17)] G I L (lsO G I L n (lsP m T n (m + 1) A a)) := by
  refine Mx.of (by decide) rfl rfl (fun z e1 e2 e3 hz => ?_)
  subst e1; subst e2; subst e3
  refine b_X6_readLines_0 hz hG ?_
  have hm := hT.1
  have ha := hT.2.2.2.2.1
  have h1 := hD.2.1
  have h16 := hD.2.2.1
  generalize hRs : lsP m T n (m + 1) A a = Rs at *
  have exitW : ∀ (X : amI) (u1 : Int32), ¬ X 17 5 = 0 → lsO G I L n Rs none G X L → Wx z 0 0 2 [(0, .ref ((zB z).size + 17)), (1, .int u1)] [] G X L := fun X u1 hx hp => b_X6_readLines_2 hz hG ⟨fun _ => hp, fun _ => ⟨fun _ => hp, fun w => absurd w hx⟩⟩
  have main : ∀ f (A : Nat → Int32) k c (X : amI), m - k < f → k ≤ m → c ≤ k → frD I X → X 17 3 = nI k → X 17 5 = 0 → dO X n A → lsP m T n f A k = Rs → Wx z 0 0 2 [(0, .ref ((zB z).size + 17)), (1, .int (nI c))] [] G X L := by
    intro f
    induction f with
    | zero => intro A k c X g; omega
    | succ f ih =>
      intro A k c X g gk gc gf g3 g5 gD gR
      have gP := gD.2.2.2.2.2
      have hX : rdV X m T k := hT.mv gf g3 gk
      have hXn := hX.nx
      have hid := skp_idem hX
      obtain ⟨s1, s2⟩ := sk_le (m := m) (T := T) gk
      rw [lsP] at gR
      have n5 : skp X 17 5 = 0 := by rw [skp_5]; exact g5
      refine b_X6_readLines_2 hz hG ⟨fun w => absurd ((nI_ltI (a := 120) (by decide) (by omega)).mp w) (by omega), fun _ => ⟨fun w => absurd g5 w, fun _ => ⟨hX.ok, ?_⟩⟩⟩
      rw [hXn.2.2.2.1, hXn.2.1, nI_ltI (by omega) (by omega), nI_1]
      refine ⟨fun hlt => ⟨hXn.ok, ?_⟩, fun hge => ?_⟩
      · have hsg : q_sgn (skp X) 59 = if tb m T (sk m T k) = 59 then setI (skp X) 17 (upd (skp X 17) 3 (nI (sk m T k + 1))) else q_blm (skp X) (nI (sk m T k)) 1 := by
          rw [q_sgn, hid, hXn.2.2.2.1, hXn.byte (by omega), nI_1]
        by_cases w : tb m T (sk m T k) = 59
        · rw [if_pos w] at hsg gR
          rw [hsg]
          have hYf : frC X (setI (skp X) 17 (upd (skp X 17) 3 (nI (sk m T k + 1)))) := frC_t skp_fr (frC_17 (by omega))
          have hY : rdV (setI (skp X) 17 (upd (skp X 17) 3 (nI (sk m T k + 1)))) m T (sk m T k + 1) := hX.mv hYf.D (by rw [setI_s, upd_s]) hlt
          have y5 : setI (skp X) 17 (upd (skp X 17) 3 (nI (sk m T k + 1))) 17 5 = 0 := by rw [setI_s, upd_n (by decide)]; exact n5
          refine ⟨4, _, rfl, c_X6_readLine hG hY y5 (gD.c hYf), fun ro G3 I3 L3 ⟨c1, c2, c3, c4, c5, c6⟩ => ⟨c1, by rw [c2]; exact hG, ?_⟩⟩
          rw [c2, c3]
          have hf3 : frD I I3 := frD_t gf (frD_t hYf.D c4)
          by_cases q3 : (lnW m T n A (sk m T k + 1)).1 = 0
          · rw [if_pos q3] at gR
            obtain ⟨l1, l2, l3⟩ := lnW_ok h1 h16 hlt gP q3
            obtain ⟨m1, m2, m3⟩ := c5 q3
            exact ih _ _ (c + 1) I3 (by omega) l3 (by omega) hf3 m2 m1 m3 gR
          · rw [if_neg q3] at gR
            have hfb := lnW_f (n := n) (T := T) (A := A) (show sk m T k + 1 ≤ m from hlt)
            have hne : ¬ I3 17 5 = 0 := by
              rw [c6 q3]
              intro x
              exact q3 ((nI_eq (b := 0) (by omega) (by decide)).mp x)
            refine exitW _ _ hne ?_
            rw [← gR]
            exact ⟨rfl, rfl, rfl, hf3, fun x => absurd x q3, fun _ => c6 q3⟩
        · rw [if_neg w] at hsg gR
          rw [hsg]
          have hm1 : ¬ tb m T (sk m T k) = -1 := fun x => by
            rw [tb, if_pos hlt] at x
            obtain ⟨b, hb, hTb⟩ := hT.2.2.2.2.2 _ hlt
            rw [hTb] at x
            have := congrArg Int32.toInt x
            rw [nI_toInt (by omega)] at this
            have h2 : (-1 : Int32).toInt = -1 := by decide
            omega
          rw [if_neg hm1] at gR
          have hb5 : q_blm (skp X) (nI (sk m T k)) 1 17 5 = nI (8 * sk m T k + 1) := by rw [blm_5 n5]; exact n8 _ 1
          have hne : ¬ q_blm (skp X) (nI (sk m T k)) 1 17 5 = 0 := by rw [hb5]; exact n8_ne (by omega) (by decide) (by decide)
          refine ⟨4, _, rfl, c_X6_readLineF hG hne, fun ro G3 I3 L3 ⟨c1, c2, c3, c4⟩ => ⟨c1, by rw [c2]; exact hG, ?_⟩⟩
          rw [c2, c3, c4]
          refine exitW _ _ hne ?_
          rw [← gR]
          exact ⟨rfl, rfl, rfl, frD_t gf (frC_t skp_fr blm_fr).D, fun x => absurd x (by show ¬ 8 * sk m T k + 1 = 0; omega), fun _ => hb5⟩
      · have hm1 : tb m T (sk m T k) = -1 := tb_m (by omega)
        rw [if_neg (by rw [hm1]; decide), if_pos hm1] at gR
        rw [← gR]
        exact ⟨rfl, rfl, rfl, frD_t gf skp_fr.D, fun _ => ⟨n5, gD.c skp_fr⟩, fun x => absurd rfl x⟩
  exact main (m + 1) A a 0 I (by omega) ha (Nat.zero_le _) frD_r hT.2.2.2.1 h5 hD hRs
/-- what reading leaves -/
def rdO (G : amG) (I : amI) (L : amL) (R : Nat × Nat × (Nat → Int32)) : amP := fun r G1 I1 L1 => r = some (.int (nI R.1)) ∧ G1 = G ∧ L1 = L ∧ frD I I1 ∧ (R.1 = 0 → dO I1 R.2.1 R.2.2)
theorem lsP_f {m n : Nat} {T : Nat → Int32} (h1 : 1 ≤ n) (h16 : n ≤ 16) : ∀ f (A : Nat → Int32) k, k ≤ m → PO n A → (lsP m T n f A k).1 ≤ 8 * m + 3
  | 0, A, k, hk, _ => Nat.zero_le _
  | f + 1, A, k, hk, hP => by
    obtain ⟨s1, s2⟩ := sk_le (m := m) (T := T) hk
    rw [lsP]
    by_cases e : tb m T (sk m T k) = 59
    · rw [if_pos e]
      have hlt := tb_lt e (by decide)
      by_cases e2 : (lnW m T n A (sk m T k + 1)).1 = 0
      · rw [if_pos e2]
        obtain ⟨g1, g2, g3⟩ := lnW_ok h1 h16 hlt hP e2
        exact lsP_f h1 h16 f _ _ g3 g1
      · rw [if_neg e2]; exact lnW_f hlt
    · rw [if_neg e]
      split
      · exact Nat.zero_le _
      · show 8 * sk m T k + 1 ≤ _; omega
set_option maxRecDepth 100000 in
set_option maxHeartbeats 4000000 in
theorem b_X6_read_0 {z : amZ} {post : amP} {G : amG} {I : amI} {L : amL} (hz : Go z cX6_read RX6 3 (some .int) 7 0 0 post) (hG : Lay G)  (h : ∃ (dq1 : Nat) (postq1 : amP), Nat.ble (dq1 + 1) 7 = true ∧ Mx (zL z) (zD z) (zB z) yX6_readKind cX6_readKind 2 (some .int) dq1 0 0 [.ref ((zB z).size + 17)] G (setI (setI I 17 (upd (I 17) 3 (0 : Int32))) 17 (upd ((setI I 17 (upd (I 17) 3 (0 : Int32))) 17) 5 (0 : Int32))) L postq1 ∧ ∀ (roq1 : Option Value) (Gq1 : amG) (Iq1 : amI) (Lq1 : amL), postq1 roq1 Gq1 Iq1 Lq1 → ∃ (rq1 : Int32), roq1 = some (.int rq1) ∧ Lay Gq1 ∧ ((¬ (Iq1 17 5) = 0) → ((¬ (Iq1 17 5) = 0) → post (some (.int (Iq1 17 5))) Gq1 Iq1 Lq1) ∧ (((Iq1 17 5) = 0) → ∃ (dq4 : Nat) (postq4 : amP), Nat.ble (dq4 + 1) 7 = true ∧ Mx (zL z) (zD z) (zB z) yX6_readLines cX6_readLines 2 none dq4 0 0 [.ref ((zB z).size + 17)] Gq1 Iq1 Lq1 postq4 ∧ ∀ (roq4 : Option Value) (Gq4 : amG) (Iq4 : amI) (Lq4 : amL), postq4 roq4 Gq4 Iq4 Lq4 → roq4 = none ∧ Lay Gq4 ∧ post (some (.int (Iq4 17 5))) Gq4 Iq4 Lq4)) ∧ (((Iq1 17 5) = 0) → ∃ (dq5 : Nat) (postq5 : amP), Nat.ble (dq5 + 1) 7 = true ∧ Mx (zL z) (zD z) (zB z) yX6_readNumber cX6_readNumber 2 (some .int) dq5 0 0 [.ref ((zB z).size + 17)] Gq1 Iq1 Lq1 postq5 ∧ ∀ (roq5 : Option Value) (Gq5 : amG) (Iq5 : amI) (Lq5 : amL), postq5 roq5 Gq5 Iq5 Lq5 → ∃ (rq5 : Int32), roq5 = some (.int rq5) ∧ Lay Gq5 ∧ ((¬ (Iq5 17 5) = 0) → ((¬ (Iq5 17 5) = 0) → post (some (.int (Iq5 17 5))) Gq5 Iq5 Lq5) ∧ (((Iq5 17 5) = 0) → ∃ (dq8 : Nat) (postq8 : amP), Nat.ble (dq8 + 1) 7 = true ∧ Mx (zL z) (zD z) (zB z) yX6_readLines cX6_readLines 2 none dq8 0 0 [.ref ((zB z).size + 17)] Gq5 Iq5 Lq5 postq8 ∧ ∀ (roq8 : Option Value) (Gq8 : amG) (Iq8 : amI) (Lq8 : amL), postq8 roq8 Gq8 Iq8 Lq8 → roq8 = none ∧ Lay Gq8 ∧ post (some (.int (Iq8 17 5))) Gq8 Iq8 Lq8)) ∧ (((Iq5 17 5) = 0) → ∃ (dq9 : Nat) (postq9 : amP), Nat.ble (dq9 + 1) 7 = true ∧ Mx (zL z) (zD z) (zB z) yX6_build cX6_build 3 (some .boolean) dq9 0 0 [.ref ((zB z).size + 17), .int rq1, .int rq5] Gq5 Iq5 Lq5 postq9 ∧ ∀ (roq9 : Option Value) (Gq9 : amG) (Iq9 : amI) (Lq9 : amL), postq9 roq9 Gq9 Iq9 Lq9 → ∃ (rq9 : Int32), roq9 = some (.int rq9) ∧ Lay Gq9 ∧ ((¬ rq9 = 0) → ((¬ (Iq9 17 5) = 0) → post (some (.int (Iq9 17 5))) Gq9 Iq9 Lq9) ∧ (((Iq9 17 5) = 0) → ∃ (dq12 : Nat) (postq12 : amP), Nat.ble (dq12 + 1) 7 = true ∧ Mx (zL z) (zD z) (zB z) yX6_readLines cX6_readLines 2 none dq12 0 0 [.ref ((zB z).size + 17)] Gq9 Iq9 Lq9 postq12 ∧ ∀ (roq12 : Option Value) (Gq12 : amG) (Iq12 : amI) (Lq12 : amL), postq12 roq12 Gq12 Iq12 Lq12 → roq12 = none ∧ Lay Gq12 ∧ post (some (.int (Iq12 17 5))) Gq12 Iq12 Lq12)) ∧ ((rq9 = 0) → ((¬ ((q_blm Iq9 (Iq9 17 4) (2 : Int32)) 17 5) = 0) → post (some (.int ((q_blm Iq9 (Iq9 17 4) (2 : Int32)) 17 5))) Gq9 (q_blm Iq9 (Iq9 17 4) (2 : Int32)) Lq9) ∧ ((((q_blm Iq9 (Iq9 17 4) (2 : Int32)) 17 5) = 0) → ∃ (dq14 : Nat) (postq14 : amP), Nat.ble (dq14 + 1) 7 = true ∧ Mx (zL z) (zD z) (zB z) yX6_readLines cX6_readLines 2 none dq14 0 0 [.ref ((zB z).size + 17)] Gq9 (q_blm Iq9 (Iq9 17 4) (2 : Int32)) Lq9 postq14 ∧ ∀ (roq14 : Option Value) (Gq14 : amG) (Iq14 : amI) (Lq14 : amL), postq14 roq14 Gq14 Iq14 Lq14 → roq14 = none ∧ Lay Gq14 ∧ post (some (.int (Iq14 17 5))) Gq14 Iq14 Lq14))))) : Wx z 0 0 0 [(0, .ref ((zB z).size + 17))] [] G I L := by
  have hz1 := hz.1
  refine am_aload_n hz1 dX6_read_0 0 rfl rfl ?_
  refine am_iconst (v := 0) hz1 dX6_read_1 (by decide) ?_
  refine am_putI hz1 fl_X6_23 (ln_17 hG) (lk_17 hG) rfl rfl (fun _ => rfl) dX6_read_2 ?_
  refine am_aload_n hz1 dX6_read_5 0 rfl rfl ?_
  refine am_iconst (v := 0) hz1 dX6_read_6 (by decide) ?_
  refine am_putI hz1 fl_X6_27 (ln_17 hG) (lk_17 hG) rfl rfl (fun _ => rfl) dX6_read_7 ?_
  refine am_aload_n hz1 dX6_read_10 0 rfl rfl ?_
  obtain ⟨dq1, postq1, hdq1, hMq1, h⟩ := h
  refine am_callV hz1 cv_X6_30 [] [] hMq1 (ln_17 hG) (lk_17 hG) rfl rfl (hz.fr hdq1) (hz.lo hdq1) (by rw [hz.2.1]; exact ⟨Nat.le_refl _, Nat.le_refl _⟩) (Nat.le_of_ble_eq_true rfl) dX6_read_11 (fun roq1 Gq1 Iq1 Lq1 hpq1 => ?_)
  obtain ⟨rq1, rfl, hGq1, h⟩ := h roq1 Gq1 Iq1 Lq1 hpq1
  refine am_istore_n (lv' := [(1, .int rq1), (0, .ref ((zB z).size + 17))]) hz1 dX6_read_14 rfl rfl rfl ?_
  refine am_aload_n hz1 dX6_read_15 1 rfl rfl ?_
  refine am_getI hz1 fl_X6_27 (ln_17 hGq1) (lk_17 hGq1) rfl dX6_read_16 ?_
  refine am_if_ne (tgt := 52) hz1 dX6_read_19 (by decide) (fun c2 => ?_) (fun c2 => ?_)
  · replace h := h.1 c2
    refine am_aload_n hz1 dX6_read_52 1 rfl rfl ?_
    refine am_getI hz1 fl_X6_27 (ln_17 hGq1) (lk_17 hGq1) rfl dX6_read_53 ?_
    refine am_if_ne (tgt := 63) hz1 dX6_read_56 (by decide) (fun c3 => ?_) (fun c3 => ?_)
    · replace h := h.1 c3
      refine am_aload_n hz1 dX6_read_63 1 rfl rfl ?_
      refine am_getI hz1 fl_X6_27 (ln_17 hGq1) (lk_17 hGq1) rfl dX6_read_64 ?_
      exact am_ireturn hz dX6_read_67 h
    · replace h := h.2 c3
      refine am_aload_n hz1 dX6_read_59 1 rfl rfl ?_
      obtain ⟨dq4, postq4, hdq4, hMq4, h⟩ := h
      refine am_callV hz1 cv_X6_48 [] [] hMq4 (ln_17 hGq1) (lk_17 hGq1) rfl rfl (hz.fr hdq4) (hz.lo hdq4) (by rw [hz.2.1]; exact ⟨Nat.le_refl _, Nat.le_refl _⟩) (Nat.le_of_ble_eq_true rfl) dX6_read_60 (fun roq4 Gq4 Iq4 Lq4 hpq4 => ?_)
      obtain ⟨rfl, hGq4, h⟩ := h roq4 Gq4 Iq4 Lq4 hpq4
      refine am_aload_n hz1 dX6_read_63 1 rfl rfl ?_
      refine am_getI hz1 fl_X6_27 (ln_17 hGq4) (lk_17 hGq4) rfl dX6_read_64 ?_
      exact am_ireturn hz dX6_read_67 h
  · replace h := h.2 c2
    refine am_aload_n hz1 dX6_read_22 1 rfl rfl ?_
    obtain ⟨dq5, postq5, hdq5, hMq5, h⟩ := h
    refine am_callV hz1 cv_X6_34 [] [] hMq5 (ln_17 hGq1) (lk_17 hGq1) rfl rfl (hz.fr hdq5) (hz.lo hdq5) (by rw [hz.2.1]; exact ⟨Nat.le_refl _, Nat.le_refl _⟩) (Nat.le_of_ble_eq_true rfl) dX6_read_23 (fun roq5 Gq5 Iq5 Lq5 hpq5 => ?_)
    obtain ⟨rq5, rfl, hGq5, h⟩ := h roq5 Gq5 Iq5 Lq5 hpq5
    refine am_istore_n (lv' := [(2, .int rq5), (1, .int rq1), (0, .ref ((zB z).size + 17))]) hz1 dX6_read_26 rfl rfl rfl ?_
    refine am_aload_n hz1 dX6_read_27 2 rfl rfl ?_
    refine am_getI hz1 fl_X6_27 (ln_17 hGq5) (lk_17 hGq5) rfl dX6_read_28 ?_
    refine am_if_ne (tgt := 52) hz1 dX6_read_31 (by decide) (fun c6 => ?_) (fun c6 => ?_)
    · replace h := h.1 c6
      refine am_aload_n hz1 dX6_read_52 2 rfl rfl ?_
      refine am_getI hz1 fl_X6_27 (ln_17 hGq5) (lk_17 hGq5) rfl dX6_read_53 ?_
      refine am_if_ne (tgt := 63) hz1 dX6_read_56 (by decide) (fun c7 => ?_) (fun c7 => ?_)
      · replace h := h.1 c7
        refine am_aload_n hz1 dX6_read_63 2 rfl rfl ?_
        refine am_getI hz1 fl_X6_27 (ln_17 hGq5) (lk_17 hGq5) rfl dX6_read_64 ?_
        exact am_ireturn hz dX6_read_67 h
      · replace h := h.2 c7
        refine am_aload_n hz1 dX6_read_59 2 rfl rfl ?_
        obtain ⟨dq8, postq8, hdq8, hMq8, h⟩ := h
        refine am_callV hz1 cv_X6_48 [] [] hMq8 (ln_17 hGq5) (lk_17 hGq5) rfl rfl (hz.fr hdq8) (hz.lo hdq8) (by rw [hz.2.1]; exact ⟨Nat.le_refl _, Nat.le_refl _⟩) (Nat.le_of_ble_eq_true rfl) dX6_read_60 (fun roq8 Gq8 Iq8 Lq8 hpq8 => ?_)
        obtain ⟨rfl, hGq8, h⟩ := h roq8 Gq8 Iq8 Lq8 hpq8
        refine am_aload_n hz1 dX6_read_63 2 rfl rfl ?_
        refine am_getI hz1 fl_X6_27 (ln_17 hGq8) (lk_17 hGq8) rfl dX6_read_64 ?_
        exact am_ireturn hz dX6_read_67 h
    · replace h := h.2 c6
      refine am_aload_n hz1 dX6_read_34 2 rfl rfl ?_
      refine am_iload_n hz1 dX6_read_35 1 rfl rfl ?_
      refine am_iload_n hz1 dX6_read_36 0 rfl rfl ?_
      obtain ⟨dq9, postq9, hdq9, hMq9, h⟩ := h
      refine am_callV hz1 cv_X6_37 [.int rq1, .int rq5] [] hMq9 (ln_17 hGq5) (lk_17 hGq5) rfl rfl (hz.fr hdq9) (hz.lo hdq9) (by rw [hz.2.1]; exact ⟨Nat.le_refl _, Nat.le_refl _⟩) (Nat.le_of_ble_eq_true rfl) dX6_read_37 (fun roq9 Gq9 Iq9 Lq9 hpq9 => ?_)
      obtain ⟨rq9, rfl, hGq9, h⟩ := h roq9 Gq9 Iq9 Lq9 hpq9
      refine am_if_ne (tgt := 52) hz1 dX6_read_40 (by decide) (fun c10 => ?_) (fun c10 => ?_)
      · replace h := h.1 c10
        refine am_aload_n hz1 dX6_read_52 2 rfl rfl ?_
        refine am_getI hz1 fl_X6_27 (ln_17 hGq9) (lk_17 hGq9) rfl dX6_read_53 ?_
        refine am_if_ne (tgt := 63) hz1 dX6_read_56 (by decide) (fun c11 => ?_) (fun c11 => ?_)
        · replace h := h.1 c11
          refine am_aload_n hz1 dX6_read_63 2 rfl rfl ?_
          refine am_getI hz1 fl_X6_27 (ln_17 hGq9) (lk_17 hGq9) rfl dX6_read_64 ?_
          exact am_ireturn hz dX6_read_67 h
        · replace h := h.2 c11
          refine am_aload_n hz1 dX6_read_59 2 rfl rfl ?_
          obtain ⟨dq12, postq12, hdq12, hMq12, h⟩ := h
          refine am_callV hz1 cv_X6_48 [] [] hMq12 (ln_17 hGq9) (lk_17 hGq9) rfl rfl (hz.fr hdq12) (hz.lo hdq12) (by rw [hz.2.1]; exact ⟨Nat.le_refl _, Nat.le_refl _⟩) (Nat.le_of_ble_eq_true rfl) dX6_read_60 (fun roq12 Gq12 Iq12 Lq12 hpq12 => ?_)
          obtain ⟨rfl, hGq12, h⟩ := h roq12 Gq12 Iq12 Lq12 hpq12
          refine am_aload_n hz1 dX6_read_63 2 rfl rfl ?_
          refine am_getI hz1 fl_X6_27 (ln_17 hGq12) (lk_17 hGq12) rfl dX6_read_64 ?_
          exact am_ireturn hz dX6_read_67 h
      · replace h := h.2 c10
        refine am_aload_n hz1 dX6_read_43 2 rfl rfl ?_
        refine am_aload_n hz1 dX6_read_44 2 rfl rfl ?_
        refine am_getI hz1 fl_X6_41 (ln_17 hGq9) (lk_17 hGq9) rfl dX6_read_45 ?_
        refine am_iconst (v := 2) hz1 dX6_read_48 (by decide) ?_
        refine am_cVf hz cv_X6_44 [.int (Iq9 17 4), .int 2] [] (c_X6_blame hGq9 (Iq9 17 4) (2 : Int32) ) (ln_17 hGq9) (lk_17 hGq9) rfl rfl rfl ⟨Nat.le_refl _, Nat.le_refl _⟩ (Nat.le_of_ble_eq_true rfl) dX6_read_49 ?_
        refine am_aload_n hz1 dX6_read_52 2 rfl rfl ?_
        refine am_getI hz1 fl_X6_27 (ln_17 hGq9) (lk_17 hGq9) rfl dX6_read_53 ?_
        refine am_if_ne (tgt := 63) hz1 dX6_read_56 (by decide) (fun c13 => ?_) (fun c13 => ?_)
        · replace h := h.1 c13
          refine am_aload_n hz1 dX6_read_63 2 rfl rfl ?_
          refine am_getI hz1 fl_X6_27 (ln_17 hGq9) (lk_17 hGq9) rfl dX6_read_64 ?_
          exact am_ireturn hz dX6_read_67 h
        · replace h := h.2 c13
          refine am_aload_n hz1 dX6_read_59 2 rfl rfl ?_
          obtain ⟨dq14, postq14, hdq14, hMq14, h⟩ := h
          refine am_callV hz1 cv_X6_48 [] [] hMq14 (ln_17 hGq9) (lk_17 hGq9) rfl rfl (hz.fr hdq14) (hz.lo hdq14) (by rw [hz.2.1]; exact ⟨Nat.le_refl _, Nat.le_refl _⟩) (Nat.le_of_ble_eq_true rfl) dX6_read_60 (fun roq14 Gq14 Iq14 Lq14 hpq14 => ?_)
          obtain ⟨rfl, hGq14, h⟩ := h roq14 Gq14 Iq14 Lq14 hpq14
          refine am_aload_n hz1 dX6_read_63 2 rfl rfl ?_
          refine am_getI hz1 fl_X6_27 (ln_17 hGq14) (lk_17 hGq14) rfl dX6_read_64 ?_
          exact am_ireturn hz dX6_read_67 h
set_option maxRecDepth 100000 in
set_option maxHeartbeats 4000000 in
theorem c_X6_read {l : Launch} {D : va_G} {B : Heap} {G : amG} {I : amI} {L : amL}  (hG : Lay G)   {m : Nat} {T : Nat → Int32} (hT : rdV (setI I 17 (upd (I 17) 3 0)) m T 0) : Mx l D B yX6_read cX6_read 3 (some .int) 7 0 0 [.ref (B.size + 17)] G I L (rdO G I L (txP m T)) := by
  refine Mx.of (by decide) rfl rfl (fun z e1 e2 e3 hz => ?_)
  subst e1; subst e2; subst e3
  refine b_X6_read_0 hz hG ?_
  have hm := hT.1
  have hAf : frC I (setI (setI I 17 (upd (I 17) 3 0)) 17 (upd (setI I 17 (upd (I 17) 3 0) 17) 5 0)) := frC_t (frC_17 (by omega)) (frC_17 (by omega))
  have hA : rdV (setI (setI I 17 (upd (I 17) 3 0)) 17 (upd (setI I 17 (upd (I 17) 3 0) 17) 5 0)) m T 0 := hT.mv (frC_17 (by omega)).D (by rw [setI_s, upd_n (by decide), setI_s, upd_s]; rfl) (Nat.zero_le _)
  have hA5 : setI (setI I 17 (upd (I 17) 3 0)) 17 (upd (setI I 17 (upd (I 17) 3 0) 17) 5 0) 17 5 = 0 := by rw [setI_s, upd_s]
  obtain ⟨s1, s2⟩ := sk_le (m := m) (T := T) (Nat.zero_le m)
  refine ⟨6, _, rfl, c_X6_readKind hG hA hA5, fun ro G2 I2 L2 ⟨e1, e2, e3, e4, e5⟩ => ?_⟩
  have hf2 : frC I I2 := frC_t hAf e3
  by_cases e : kdI m T (sk m T 0) = 5
  · obtain ⟨d1, d2⟩ := e4 e
    have hne : ¬ I2 17 5 = 0 := by rw [d2]; exact n8_ne (by omega) (by decide) (by decide)
    refine ⟨_, d1, by rw [e1]; exact hG, fun _ => ⟨fun _ => ?_, fun x => absurd x hne⟩, fun x => absurd x hne⟩
    have hx : txP m T = (8 * sk m T 0 + 1, 0, fun _ => 0) := by rw [txP, if_pos e]
    rw [hx, e1, e2, d2]
    exact ⟨rfl, rfl, rfl, hf2.D, fun x => absurd x (by show ¬ 8 * sk m T 0 + 1 = 0; omega)⟩
  · obtain ⟨d1, d2, d3⟩ := e5 e
    obtain ⟨k1, k2⟩ := kdI_ok e
    have k3 := wd_le k1 k2
    generalize hqk : kdI m T (sk m T 0) = q at *
    generalize hp0 : sk m T 0 = p at *
    refine ⟨_, d1, by rw [e1]; exact hG, fun x => absurd d2 x, fun _ => ?_⟩
    rw [e1, e2]
    have h2 : rdV I2 m T (p + wL q) := hA.mv e3.D d3 k3
    refine ⟨2, _, rfl, c_X6_readNumber hG h2 d2, fun ro3 G3 I3 L3 ⟨f1, f2, f3, c, f4, f5, f6, f7, f8⟩ => ⟨_, f4, by rw [f1]; exact hG, ?_⟩⟩
    rw [f1, f2]
    have hf3 : frC I I3 := frC_t hf2 f3
    obtain ⟨t1, t2⟩ := sk_le (m := m) (T := T) k3
    have hhi : kHi q ≤ 999 := by
      have : ∀ q, q < 5 → kHi q ≤ 999 := by decide
      exact this q k1
    cases hd : isDg (tb m T (sk m T (p + wL q))) with
    | false =>
      have g5 := f8 hd
      have hne : ¬ I3 17 5 = 0 := by rw [g5]; exact n8_ne (by omega) (by decide) (by decide)
      refine ⟨fun _ => ⟨fun _ => ?_, fun x => absurd x hne⟩, fun x => absurd x hne⟩
      have hr : (rdN m T (kLo q) (kHi q) (p + wL q)).1 = 8 * sk m T (p + wL q) + 1 := by rw [rn_Z hd]
      have hk : (rdK m T q p).1 = 8 * sk m T (p + wL q) + 1 := by rw [rdK, if_neg (by omega)]; exact hr
      have hx : txP m T = ((rdK m T q p).1, 0, fun _ => 0) := by rw [txP, hp0, hqk, if_neg e, if_neg (by omega)]
      rw [hx, hk, g5]
      exact ⟨rfl, rfl, rfl, hf3.D, fun x => absurd x (by show ¬ 8 * sk m T (p + wL q) + 1 = 0; omega)⟩
    | true =>
      obtain ⟨g5, g3, hag⟩ := f7 hd
      obtain ⟨j1, j2, j3, j4, j5⟩ := rn_N (lo := kLo q) (hi := kHi q) hhi hd hag
      refine ⟨fun x => absurd g5 x, fun _ => ⟨4, _, rfl, c_X6_build hG _ _ rfl k1 rfl f5, fun ro4 G4 I4 L4 ⟨b1, b2, b3, b4, b5⟩ => ⟨_, b1, by rw [b2]; exact hG, ?_⟩⟩⟩
      rw [b2, b3, bI_ne, bI_eq]
      have i17 : I4 17 = I3 17 := b4.1 17 (by decide) (by decide) (by decide)
      have hf4 : frD I I4 := frD_t hf3.D b4.D
      refine ⟨fun w => ?_, fun w => ?_⟩
      · have hok := of_decide_eq_true w
        have hr0 := j1.mpr hok.1
        have hc := j2 hr0
        have hk : rdK m T q p = (0, (rdN m T (kLo q) (kHi q) (p + wL q)).2.2.2, kN q (rdN m T (kLo q) (kHi q) (p + wL q)).2.1, kA (kN q (rdN m T (kLo q) (kHi q) (p + wL q)).2.1) (kR q (rdN m T (kLo q) (kHi q) (p + wL q)).2.1)) := by rw [rdK, if_pos hr0, if_pos (by rw [← hc]; exact hok.2)]
        rw [← hc, j5] at hk
        have hx : txP m T = ((lsP m T (kN q c) (m + 1) (kA (kN q c) (kR q c)) (dgE m T (sk m T (p + wL q)))).1, kN q c, (lsP m T (kN q c) (m + 1) (kA (kN q c) (kR q c)) (dgE m T (sk m T (p + wL q)))).2) := by
          rw [txP, hp0, hqk, if_neg e, hk, if_pos rfl]
        have y5 : I4 17 5 = 0 := by rw [i17]; exact g5
        obtain ⟨u1, u2⟩ := rn_le (p := isDg) (b := tb m T) (m := m) t2
        have h4 : rdV I4 m T (dgE m T (sk m T (p + wL q))) := hA.mv (frD_t (frC_t e3 f3).D b4.D) (by rw [i17]; exact g3) u2
        have hD4 := b5 w
        refine ⟨fun x => absurd y5 x, fun _ => ⟨5, _, rfl, c_X6_readLines hG h4 y5 hD4, fun ro5 G5 I5 L5 ⟨l1, l2, l3, l4, l5, l6⟩ => ⟨l1, by rw [l2]; exact hG, ?_⟩⟩⟩
        rw [hx]
        have hlf := lsP_f (T := T) hD4.2.1 hD4.2.2.1 (m + 1) _ _ u2 hD4.2.2.2.2.2
        by_cases z0 : (lsP m T (kN q c) (m + 1) (kA (kN q c) (kR q c)) (dgE m T (sk m T (p + wL q)))).1 = 0
        · obtain ⟨m1, m2⟩ := l5 z0
          exact ⟨by rw [m1, show ((lsP m T (kN q c) (m + 1) (kA (kN q c) (kR q c)) (dgE m T (sk m T (p + wL q)))).1) = 0 from z0]; rfl, l2, l3, frD_t hf4 l4, fun _ => m2⟩
        · exact ⟨by rw [l6 z0], l2, l3, frD_t hf4 l4, fun x => absurd x z0⟩
      · have hnk : ¬ ((kLo q ≤ c ∧ c ≤ kHi q) ∧ kN q c ≤ 16) := fun x => by rw [kOk, decide_eq_true x] at w; cases w
        have hk : (rdK m T q p).1 = 8 * sk m T (p + wL q) + 2 := by
          by_cases hr0 : (rdN m T (kLo q) (kHi q) (p + wL q)).1 = 0
          · have hc := j2 hr0
            rw [rdK, if_pos hr0, if_neg (by rw [← hc]; exact fun x => hnk ⟨j1.mp hr0, x⟩), j4]
          · rw [rdK, if_neg hr0]; exact j3 hr0
        have hx : txP m T = ((rdK m T q p).1, 0, fun _ => 0) := by rw [txP, hp0, hqk, if_neg e, if_neg (by omega)]
        have y5 : I4 17 5 = 0 := by rw [i17]; exact g5
        have hb5 : q_blm I4 (I4 17 4) 2 17 5 = nI (8 * sk m T (p + wL q) + 2) := by rw [blm_5 y5, i17, f6]; exact n8 _ 2
        have hne : ¬ q_blm I4 (I4 17 4) 2 17 5 = 0 := by rw [hb5]; exact n8_ne (by omega) (by decide) (by decide)
        refine ⟨fun _ => ?_, fun x => absurd x hne⟩
        rw [hb5, hx, hk]
        exact ⟨rfl, rfl, rfl, frD_t hf4 blm_fr.D, fun x => absurd x (by show ¬ 8 * sk m T (p + wL q) + 2 = 0; omega)⟩
