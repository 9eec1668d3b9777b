/-! FUNCTIONS: kinds, value by value, powers, inverses -/
theorem sL_f {L : amL} {t : Int64} : setL L 34 (vp_updL (L 34) 0 t) = sL L t := rfl
theorem sL_36 {L : amL} {t : Int64} : sL L t 36 = L 36 := sL_o (by decide)
theorem sL_37 {L : amL} {t : Int64} : sL L t 37 = L 37 := sL_o (by decide)
theorem sL_38 {L : amL} {t : Int64} : sL L t 38 = L 38 := sL_o (by decide)
theorem s37_36 {L : amL} {f : Nat → Int64} : setL L 37 f 36 = L 36 := setL_n (by decide)
def kdV (I : amI) (k : Int32) (n : Nat) (A : Nat → Int32) (a b : Nat) : Int64 := if q_atMost I 3 (nI a) (nI b) = true then (if k = 3 then mu n A a b else q_kind I k (nI a) (nI b)) else 0
set_option maxRecDepth 100000 in
set_option maxHeartbeats 4000000 in
theorem b_X0_reckonKind_0 {z : amZ} {post : amP} {G : amG} {I : amI} {L : amL} (hz : Go z cX0_reckonKind RX0 4 none 4 0 0 post) (hG : Lay G) {v1 : Int32} (h : Wx z 0 0 10 [(0, .ref ((zB z).size + 35)), (1, .int v1), (2, .int 0)] [] G I (setL L 37 (q_fill (L 37) 256 (0 : Int64)))) : Wx z 0 0 0 [(0, .ref ((zB z).size + 35)), (1, .int v1)] [] G I L := by
  have hz1 := hz.1
  refine am_aload_n hz1 dX0_reckonKind_0 0 rfl rfl ?_
  refine am_getR hz1 fl_X0_15 (ln_35 hG) (lk_35 hG) (lr_35_1 hG) rfl dX0_reckonKind_1 ?_
  refine am_lconst (v := 0) hz1 dX0_reckonKind_4 (by decide) ?_
  refine am_cSf hz ct_X0_36 [.ref ((zB z).size + 37), .long (0 : Int64)] [] (c_J7_fill_d0a16 hG (ln_37 hG) (lk_37 hG) (ll_37 hG) (0 : Int64) (by decide)) rfl rfl rfl ⟨Nat.le_refl _, Nat.le_refl _⟩ (Nat.le_of_ble_eq_true rfl) dX0_reckonKind_5 ?_
  refine am_iconst (v := 0) hz1 dX0_reckonKind_8 (by decide) ?_
  refine am_istore_n (lv' := [(2, .int 0), (0, .ref ((zB z).size + 35)), (1, .int v1)]) hz1 dX0_reckonKind_9 rfl rfl rfl ?_
  exact am_sub (lv' := [(0, .ref ((zB z).size + 35)), (1, .int v1), (2, .int 0)]) [1, 2, 0] rfl h
set_option maxRecDepth 100000 in
set_option maxHeartbeats 4000000 in
theorem b_X0_reckonKind_10 {z : amZ} {post : amP} {G : amG} {I : amI} {L : amL} (hz : Go z cX0_reckonKind RX0 4 none 4 0 0 post) (hG : Lay G) {v1 : Int32} {v2 : Int32} (h : (((I 3 0) ≤ v2) → post none G I L) ∧ ((¬ (I 3 0) ≤ v2) → ((¬ v1 = (3 : Int32)) → Wx z 0 0 40 [(0, .ref ((zB z).size + 35)), (1, .int v1), (2, .int v2), (3, .int 0)] [] G I L) ∧ ((v1 = (3 : Int32)) → (szOk I 3) ∧ (rowOk I 3) ∧ Wx z 0 0 40 [(0, .ref ((zB z).size + 35)), (1, .int v1), (2, .int v2), (3, .int 0)] [] G I (setL L 39 (q_mf I 3 v2 (L 39) (sz I 3)))))) : Wx z 0 0 10 [(0, .ref ((zB z).size + 35)), (1, .int v1), (2, .int v2)] [] G I L := by
  have hz1 := hz.1
  refine am_iload_n hz1 dX0_reckonKind_10 2 rfl rfl ?_
  refine am_aload_n hz1 dX0_reckonKind_11 0 rfl rfl ?_
  refine am_getR hz1 fl_X0_24 (ln_35 hG) (lk_35 hG) (lr_35_4 hG) rfl dX0_reckonKind_12 ?_
  refine am_getI hz1 fl_X0_48 (ln_3 hG) (lk_3 hG) rfl dX0_reckonKind_15 ?_
  refine am_icmp_ge (tgt := 107) hz1 dX0_reckonKind_18 (by decide) (fun c1 => ?_) (fun c1 => ?_)
  · replace h := h.1 c1
    exact am_return hz dX0_reckonKind_107 h
  · replace h := h.2 c1
    refine am_iload_n hz1 dX0_reckonKind_21 1 rfl rfl ?_
    refine am_iconst (v := 3) hz1 dX0_reckonKind_22 (by decide) ?_
    refine am_icmp_ne (tgt := 38) hz1 dX0_reckonKind_23 (by decide) (fun c2 => ?_) (fun c2 => ?_)
    · replace h := h.1 c2
      refine am_iconst (v := 0) hz1 dX0_reckonKind_38 (by decide) ?_
      refine am_istore_n (lv' := [(3, .int 0), (0, .ref ((zB z).size + 35)), (1, .int v1), (2, .int v2)]) hz1 dX0_reckonKind_39 rfl rfl rfl ?_
      exact am_sub (lv' := [(0, .ref ((zB z).size + 35)), (1, .int v1), (2, .int v2), (3, .int 0)]) [1, 2, 3, 0] rfl h
    · replace h := h.2 c2
      refine am_aload_n hz1 dX0_reckonKind_26 0 rfl rfl ?_
      refine am_getR hz1 fl_X0_24 (ln_35 hG) (lk_35 hG) (lr_35_4 hG) rfl dX0_reckonKind_27 ?_
      refine am_iload_n hz1 dX0_reckonKind_30 2 rfl rfl ?_
      refine am_aload_n hz1 dX0_reckonKind_31 0 rfl rfl ?_
      refine am_getR hz1 fl_X0_21 (ln_35 hG) (lk_35 hG) (lr_35_3 hG) rfl dX0_reckonKind_32 ?_
      obtain ⟨g3, h⟩ := h
      obtain ⟨g4, h⟩ := h
      refine am_cVf hz cv_X0_54 [.int v2, .ref ((zB z).size + 39)] [] (c_X4_moebiusFrom hG isO_3 (ln_39 hG) (lk_39 hG) (ll_39 hG) v2 g3 g4) (ln_3 hG) (lk_3 hG) rfl rfl rfl ⟨Nat.le_refl _, Nat.le_refl _⟩ (Nat.le_of_ble_eq_true rfl) dX0_reckonKind_35 ?_
      refine am_iconst (v := 0) hz1 dX0_reckonKind_38 (by decide) ?_
      refine am_istore_n (lv' := [(3, .int 0), (0, .ref ((zB z).size + 35)), (1, .int v1), (2, .int v2)]) hz1 dX0_reckonKind_39 rfl rfl rfl ?_
      exact am_sub (lv' := [(0, .ref ((zB z).size + 35)), (1, .int v1), (2, .int v2), (3, .int 0)]) [1, 2, 3, 0] rfl h
set_option maxRecDepth 100000 in
set_option maxHeartbeats 4000000 in
theorem b_X0_reckonKind_40 {z : amZ} {post : amP} {G : amG} {I : amI} {L : amL} (hz : Go z cX0_reckonKind RX0 4 none 4 0 0 post) (hG : Lay G) {v1 : Int32} {v2 : Int32} {v3 : Int32} (h : (((I 3 0) ≤ v3) → Wx z 0 0 10 [(0, .ref ((zB z).size + 35)), (1, .int v1), (2, .int (v2 + 1))] [] G I L) ∧ ((¬ (I 3 0) ≤ v3) → (szOk I 3) ∧ ((q_atMost I 3 v2 v3 = false) → Wx z 0 0 40 [(0, .ref ((zB z).size + 35)), (1, .int v1), (2, .int v2), (3, .int (v3 + 1))] [] G I L) ∧ ((q_atMost I 3 v2 v3 = true) → ((¬ v1 = (3 : Int32)) → (szOk I 3) ∧ (vp_in v2 16) ∧ vp_in (q_cell (0 : Int32) v2 v3) 256 ∧ Wx z 0 0 40 [(0, .ref ((zB z).size + 35)), (1, .int v1), (2, .int v2), (3, .int (v3 + 1))] [] G I (setL L 37 (vp_updL (L 37) (q_cell (0 : Int32) v2 v3).toNatClampNeg (q_kind I v1 v2 v3)))) ∧ ((v1 = (3 : Int32)) → vp_in v3 16 ∧ vp_in (q_cell (0 : Int32) v2 v3) 256 ∧ Wx z 0 0 40 [(0, .ref ((zB z).size + 35)), (1, .int v1), (2, .int v2), (3, .int (v3 + 1))] [] G I (setL L 37 (vp_updL (L 37) (q_cell (0 : Int32) v2 v3).toNatClampNeg (L 39 v3.toNatClampNeg))))))) : Wx z 0 0 40 [(0, .ref ((zB z).size + 35)), (1, .int v1), (2, .int v2), (3, .int v3)] [] G I L := by
  have hz1 := hz.1
  refine am_iload_n hz1 dX0_reckonKind_40 3 rfl rfl ?_
  refine am_aload_n hz1 dX0_reckonKind_41 0 rfl rfl ?_
  refine am_getR hz1 fl_X0_24 (ln_35 hG) (lk_35 hG) (lr_35_4 hG) rfl dX0_reckonKind_42 ?_
  refine am_getI hz1 fl_X0_48 (ln_3 hG) (lk_3 hG) rfl dX0_reckonKind_45 ?_
  refine am_icmp_ge (tgt := 101) hz1 dX0_reckonKind_48 (by decide) (fun c1 => ?_) (fun c1 => ?_)
  · replace h := h.1 c1
    refine am_iinc (v := v2 + 1) (lv' := [(2, .int (v2 + 1)), (0, .ref ((zB z).size + 35)), (1, .int v1), (3, .int v3)]) hz1 dX0_reckonKind_101 2 rfl rfl rfl rfl ?_
    refine am_goto (tgt := 10) hz1 dX0_reckonKind_104 (by decide) ?_
    exact am_sub (lv' := [(0, .ref ((zB z).size + 35)), (1, .int v1), (2, .int (v2 + 1))]) [1, 2, 0] rfl h
  · replace h := h.2 c1
    refine am_aload_n hz1 dX0_reckonKind_51 0 rfl rfl ?_
    refine am_getR hz1 fl_X0_24 (ln_35 hG) (lk_35 hG) (lr_35_4 hG) rfl dX0_reckonKind_52 ?_
    refine am_iload_n hz1 dX0_reckonKind_55 2 rfl rfl ?_
    refine am_iload_n hz1 dX0_reckonKind_56 3 rfl rfl ?_
    obtain ⟨g2, h⟩ := h
    refine am_cVf hz cv_X0_58 [.int v2, .int v3] [] (c_X4_atMost hG isO_3 v2 v3 g2) (ln_3 hG) (lk_3 hG) rfl rfl rfl ⟨Nat.le_refl _, Nat.le_refl _⟩ (Nat.le_of_ble_eq_true rfl) dX0_reckonKind_57 ?_
    refine am_ifb_eq (tgt := 95) hz1 dX0_reckonKind_60 (by decide) (fun c3 => ?_) (fun c3 => ?_)
    · replace h := h.1 c3
      refine am_iinc (v := v3 + 1) (lv' := [(3, .int (v3 + 1)), (0, .ref ((zB z).size + 35)), (1, .int v1), (2, .int v2)]) hz1 dX0_reckonKind_95 3 rfl rfl rfl rfl ?_
      refine am_goto (tgt := 40) hz1 dX0_reckonKind_98 (by decide) ?_
      exact am_sub (lv' := [(0, .ref ((zB z).size + 35)), (1, .int v1), (2, .int v2), (3, .int (v3 + 1))]) [1, 2, 3, 0] rfl h
    · replace h := h.2 c3
      refine am_aload_n hz1 dX0_reckonKind_63 0 rfl rfl ?_
      refine am_getR hz1 fl_X0_15 (ln_35 hG) (lk_35 hG) (lr_35_1 hG) rfl dX0_reckonKind_64 ?_
      refine am_iconst (v := 0) hz1 dX0_reckonKind_67 (by decide) ?_
      refine am_iload_n hz1 dX0_reckonKind_68 2 rfl rfl ?_
      refine am_iload_n hz1 dX0_reckonKind_69 3 rfl rfl ?_
      refine am_cSf hz ct_X0_32 [.int 0, .int v2, .int v3] [.ref ((zB z).size + 37)] (c_X0_cell hG (0 : Int32) v2 v3 ) rfl rfl rfl ⟨Nat.le_refl _, Nat.le_refl _⟩ (Nat.le_of_ble_eq_true rfl) dX0_reckonKind_70 ?_
      refine am_iload_n hz1 dX0_reckonKind_73 1 rfl rfl ?_
      refine am_iconst (v := 3) hz1 dX0_reckonKind_74 (by decide) ?_
      refine am_icmp_ne (tgt := 87) hz1 dX0_reckonKind_75 (by decide) (fun c4 => ?_) (fun c4 => ?_)
      · replace h := h.1 c4
        refine am_aload_n hz1 dX0_reckonKind_87 0 rfl rfl ?_
        refine am_iload_n hz1 dX0_reckonKind_88 1 rfl rfl ?_
        refine am_iload_n hz1 dX0_reckonKind_89 2 rfl rfl ?_
        refine am_iload_n hz1 dX0_reckonKind_90 3 rfl rfl ?_
        obtain ⟨g5, h⟩ := h
        obtain ⟨g6, h⟩ := h
        refine am_cVf hz cv_X0_62 [.int v1, .int v2, .int v3] [.int (q_cell (0 : Int32) v2 v3), .ref ((zB z).size + 37)] (c_X0_ofKind hG v1 v2 v3 g5 g6) (ln_35 hG) (lk_35 hG) rfl rfl rfl ⟨Nat.le_refl _, Nat.le_refl _⟩ (Nat.le_of_ble_eq_true rfl) dX0_reckonKind_91 ?_
        obtain ⟨g7, h⟩ := h
        refine am_last hz1 (ln_37 hG) (lk_37 hG) (by rw [(ll_37 hG)]; exact g7) dX0_reckonKind_94 ?_
        refine am_iinc (v := v3 + 1) (lv' := [(3, .int (v3 + 1)), (0, .ref ((zB z).size + 35)), (1, .int v1), (2, .int v2)]) hz1 dX0_reckonKind_95 3 rfl rfl rfl rfl ?_
        refine am_goto (tgt := 40) hz1 dX0_reckonKind_98 (by decide) ?_
        exact am_sub (lv' := [(0, .ref ((zB z).size + 35)), (1, .int v1), (2, .int v2), (3, .int (v3 + 1))]) [1, 2, 3, 0] rfl h
      · replace h := h.2 c4
        refine am_aload_n hz1 dX0_reckonKind_78 0 rfl rfl ?_
        refine am_getR hz1 fl_X0_21 (ln_35 hG) (lk_35 hG) (lr_35_3 hG) rfl dX0_reckonKind_79 ?_
        refine am_iload_n hz1 dX0_reckonKind_82 3 rfl rfl ?_
        obtain ⟨g8, h⟩ := h
        refine am_lald hz1 (ln_39 hG) (lk_39 hG) (by rw [(ll_39 hG)]; exact g8) dX0_reckonKind_83 ?_
        refine am_goto (tgt := 94) hz1 dX0_reckonKind_84 (by decide) ?_
        obtain ⟨g9, h⟩ := h
        refine am_last hz1 (ln_37 hG) (lk_37 hG) (by rw [(ll_37 hG)]; exact g9) dX0_reckonKind_94 ?_
        refine am_iinc (v := v3 + 1) (lv' := [(3, .int (v3 + 1)), (0, .ref ((zB z).size + 35)), (1, .int v1), (2, .int v2)]) hz1 dX0_reckonKind_95 3 rfl rfl rfl rfl ?_
        refine am_goto (tgt := 40) hz1 dX0_reckonKind_98 (by decide) ?_
        exact am_sub (lv' := [(0, .ref ((zB z).size + 35)), (1, .int v1), (2, .int v2), (3, .int (v3 + 1))]) [1, 2, 3, 0] rfl h
set_option maxRecDepth 100000 in
set_option maxHeartbeats 4000000 in
theorem c_X0_reckonKind {l : Launch} {D : va_G} {B : Heap} {G : amG} {I : amI} {L : amL}  (hG : Lay G)  (v1 : Int32) {n : Nat} {A : Nat → Int32} (hO : OI I 3 n A) : Mx l D B yX0_reckonKind cX0_reckonKind 4 none 4 0 0 [.ref (B.size + 35), .int v1] G I L (fun r G1 I1 L1 => r = none ∧ G1 = G ∧ I1 = I ∧ ∃ f g : Nat → Int64, L1 = setL (setL L 37 f) 39 g ∧ KV (kdV I v1 n A) n f) := by
  refine Mx.of (by decide) rfl rfl (fun z e1 e2 e3 hz => ?_)
  subst e1; subst e2; subst e3
  refine b_X0_reckonKind_0 hz hG ?_
  have hn := hO.1
  have h16 := hO.2.2.1
  have hs := hO.sz
  have e39 : ∀ f g : Nat → Int64, setL (setL (setL L 37 f) 39 g) 39 = setL (setL L 37 f) 39 := fun f g => by funext h; rw [setL_ss]
  have sw : ∀ f g h : Nat → Int64, setL (setL (setL L 37 f) 39 g) 37 h = setL (setL L 37 h) 39 g := fun f g h => by
    funext q
    by_cases h1 : q = 37
    · subst h1; rw [setL_s, setL_n (by decide), setL_s]
    · rw [setL_n h1]
      by_cases h2 : q = 39
      · subst h2; rw [setL_s, setL_s]
      · rw [setL_n h2, setL_n h2, setL_n h1, setL_n h1]
  have main : ∀ f g : Nat → Int64, KP (kdV I v1 n A) n 0 0 f → Wx z 0 0 10 [(0, .ref ((zB z).size + 35)), (1, .int v1), (2, .int (nI 0))] [] G I (setL (setL L 37 f) 39 g) := by
    refine for_up (P := fun a => ∀ f g : Nat → Int64, KP (kdV I v1 n A) n a 0 f → Wx z 0 0 10 [(0, .ref ((zB z).size + 35)), (1, .int v1), (2, .int (nI a))] [] G I (setL (setL L 37 f) 39 g)) (n := n) ?_ ?_ (Nat.zero_le n)
    · intro f g hf
      exact b_X0_reckonKind_10 hz hG ⟨fun _ => ⟨rfl, rfl, rfl, f, g, rfl, KP_end hf⟩, fun h => absurd (sz_le hn h16) h⟩
    · intro a ha ih f g hf
      have inner : ∀ f g : Nat → Int64, KP (kdV I v1 n A) n a 0 f → (v1 = 3 → ∀ x, x < n → g x = mu n A a x) → Wx z 0 0 40 [(0, .ref ((zB z).size + 35)), (1, .int v1), (2, .int (nI a)), (3, .int (nI 0))] [] G I (setL (setL L 37 f) 39 g) := by
        refine for_up (P := fun c => ∀ f g : Nat → Int64, KP (kdV I v1 n A) n a c f → (v1 = 3 → ∀ x, x < n → g x = mu n A a x) → Wx z 0 0 40 [(0, .ref ((zB z).size + 35)), (1, .int v1), (2, .int (nI a)), (3, .int (nI c))] [] G I (setL (setL L 37 f) 39 g)) (n := n) ?_ ?_ (Nat.zero_le n)
        · intro f g hf hg
          refine b_X0_reckonKind_40 hz hG ⟨fun _ => ?_, fun h => absurd (sz_le hn h16) h⟩
          rw [nI_1]
          exact ih f g (KP_row hf)
        · intro c hc ch f g hf hg
          refine b_X0_reckonKind_40 hz hG ⟨fun h => absurd h (sz_ge hn h16 hc), fun _ => ⟨hs, fun h => ?_, fun h => ⟨fun h3 => ⟨hs, in16 h16 ha, by rw [cell_0]; exact in_nI (by omega) (by decide), ?_⟩, fun h3 => ⟨in16 h16 hc, by rw [cell_0]; exact in_nI (by omega) (by decide), ?_⟩⟩⟩⟩
          · rw [nI_1]
            exact ch f g (KP_n hf (by rw [kdV, if_neg (by rw [h]; decide)])) hg
          · rw [nI_1, cell_0, cl_nI (by omega), setL_n (show 37 ≠ 39 by decide), setL_s, sw]
            exact ch _ g (KP_s h16 hf ha hc (by rw [kdV, if_pos h, if_neg h3])) hg
          · rw [nI_1, cell_0, cl_nI (n := 16 * a + c) (by omega), cl_nI (n := c) (by omega), setL_n (show 37 ≠ 39 by decide), setL_s, setL_s, sw]
            exact ch _ g (KP_s h16 hf ha hc (by rw [kdV, if_pos h, if_pos h3, hg h3 c hc])) hg
      refine b_X0_reckonKind_10 hz hG ⟨fun h => absurd h (sz_ge hn h16 ha), fun _ => ⟨fun h3 => inner f g hf (fun e => absurd e h3), fun h3 => ⟨hs, hO.row, ?_⟩⟩⟩
      rw [e39, sz_eq hn h16]
      exact inner f _ hf (fun _ x hx => mf_mu hO ha hx)
  have := main (q_fill (L 37) 256 0) (L 39) KP_0
  have e : setL (setL L 37 (q_fill (L 37) 256 0)) 39 (L 39) = setL L 37 (q_fill (L 37) 256 0) := by
    have := setL_id (L := setL L 37 (q_fill (L 37) 256 0)) (p := 39)
    rwa [setL_n (by decide)] at this
  rw [e] at this
  exact this
def eV (k : Int32) (a b : Int64) : Int64 := if k = 3 then a * b else if k = 0 then a + b else a - b
def eO (k : Int32) (a b : Int64) : Bool := if k = 3 then q_tl a b else if k = 0 then q_ovc a b else q_ovd a b
set_option maxRecDepth 100000 in
set_option maxHeartbeats 4000000 in
theorem b_X0_reckonEach_0 {z : amZ} {post : amP} {G : amG} {I : amI} {L : amL} (hz : Go z cX0_reckonEach RX0 9 none 2 0 0 post) (hG : Lay G) {v1 : Int32} {v2 : Int32} {v3 : Int32} (h : Wx z 0 0 3 [(0, .ref ((zB z).size + 35)), (1, .int v1), (2, .int v2), (3, .int v3), (4, .int 0)] [] G I L) : Wx z 0 0 0 [(0, .ref ((zB z).size + 35)), (1, .int v1), (2, .int v2), (3, .int v3)] [] G I L := by
  have hz1 := hz.1
  refine am_iconst (v := 0) hz1 dX0_reckonEach_0 (by decide) ?_
  refine am_istore (lv' := [(4, .int 0), (0, .ref ((zB z).size + 35)), (1, .int v1), (2, .int v2), (3, .int v3)]) hz1 dX0_reckonEach_1 rfl rfl ?_
  exact am_sub (lv' := [(0, .ref ((zB z).size + 35)), (1, .int v1), (2, .int v2), (3, .int v3), (4, .int 0)]) [1, 2, 3, 4, 0] rfl h
set_option maxRecDepth 100000 in
set_option maxHeartbeats 4000000 in
theorem b_X0_reckonEach_3 {z : amZ} {post : amP} {G : amG} {I : amI} {L : amL} (hz : Go z cX0_reckonEach RX0 9 none 2 0 0 post) (hG : Lay G) {v1 : Int32} {v2 : Int32} {v3 : Int32} {v4 : Int32} (h : (((256 : Int32) ≤ v4) → post none G I L) ∧ ((¬ (256 : Int32) ≤ v4) → vp_in ((v1 * (256 : Int32)) + v4) 1024 ∧ vp_in ((v2 * (256 : Int32)) + v4) 1024 ∧ ((¬ v3 = (3 : Int32)) → ((¬ v3 = 0) → vp_in v4 256 ∧ Wx z 0 0 3 [(0, .ref ((zB z).size + 35)), (1, .int v1), (2, .int v2), (3, .int v3), (4, .int (v4 + 1))] [] G (sI (sI I (q_ovA ((setL L 34 (vp_updL (L 34) 0 (0 : Int64))) 34 0) (L 36 ((v1 * (256 : Int32)) + v4).toNatClampNeg) (I 34 1))) (q_ovS ((sL (setL L 34 (vp_updL (L 34) 0 (0 : Int64))) ((setL L 34 (vp_updL (L 34) 0 (0 : Int64))) 34 0 + (L 36 ((v1 * (256 : Int32)) + v4).toNatClampNeg))) 34 0) (L 36 ((v2 * (256 : Int32)) + v4).toNatClampNeg) ((sI I (q_ovA ((setL L 34 (vp_updL (L 34) 0 (0 : Int64))) 34 0) (L 36 ((v1 * (256 : Int32)) + v4).toNatClampNeg) (I 34 1))) 34 1))) (setL (sL (sL (setL L 34 (vp_updL (L 34) 0 (0 : Int64))) ((setL L 34 (vp_updL (L 34) 0 (0 : Int64))) 34 0 + (L 36 ((v1 * (256 : Int32)) + v4).toNatClampNeg))) ((sL (setL L 34 (vp_updL (L 34) 0 (0 : Int64))) ((setL L 34 (vp_updL (L 34) 0 (0 : Int64))) 34 0 + (L 36 ((v1 * (256 : Int32)) + v4).toNatClampNeg))) 34 0 - (L 36 ((v2 * (256 : Int32)) + v4).toNatClampNeg))) 37 (vp_updL ((sL (sL (setL L 34 (vp_updL (L 34) 0 (0 : Int64))) ((setL L 34 (vp_updL (L 34) 0 (0 : Int64))) 34 0 + (L 36 ((v1 * (256 : Int32)) + v4).toNatClampNeg))) ((sL (setL L 34 (vp_updL (L 34) 0 (0 : Int64))) ((setL L 34 (vp_updL (L 34) 0 (0 : Int64))) 34 0 + (L 36 ((v1 * (256 : Int32)) + v4).toNatClampNeg))) 34 0 - (L 36 ((v2 * (256 : Int32)) + v4).toNatClampNeg))) 37) v4.toNatClampNeg ((sL (sL (setL L 34 (vp_updL (L 34) 0 (0 : Int64))) ((setL L 34 (vp_updL (L 34) 0 (0 : Int64))) 34 0 + (L 36 ((v1 * (256 : Int32)) + v4).toNatClampNeg))) ((sL (setL L 34 (vp_updL (L 34) 0 (0 : Int64))) ((setL L 34 (vp_updL (L 34) 0 (0 : Int64))) 34 0 + (L 36 ((v1 * (256 : Int32)) + v4).toNatClampNeg))) 34 0 - (L 36 ((v2 * (256 : Int32)) + v4).toNatClampNeg))) 34 0)))) ∧ ((v3 = 0) → vp_in v4 256 ∧ Wx z 0 0 3 [(0, .ref ((zB z).size + 35)), (1, .int v1), (2, .int v2), (3, .int v3), (4, .int (v4 + 1))] [] G (sI (sI I (q_ovA ((setL L 34 (vp_updL (L 34) 0 (0 : Int64))) 34 0) (L 36 ((v1 * (256 : Int32)) + v4).toNatClampNeg) (I 34 1))) (q_ovA ((sL (setL L 34 (vp_updL (L 34) 0 (0 : Int64))) ((setL L 34 (vp_updL (L 34) 0 (0 : Int64))) 34 0 + (L 36 ((v1 * (256 : Int32)) + v4).toNatClampNeg))) 34 0) (L 36 ((v2 * (256 : Int32)) + v4).toNatClampNeg) ((sI I (q_ovA ((setL L 34 (vp_updL (L 34) 0 (0 : Int64))) 34 0) (L 36 ((v1 * (256 : Int32)) + v4).toNatClampNeg) (I 34 1))) 34 1))) (setL (sL (sL (setL L 34 (vp_updL (L 34) 0 (0 : Int64))) ((setL L 34 (vp_updL (L 34) 0 (0 : Int64))) 34 0 + (L 36 ((v1 * (256 : Int32)) + v4).toNatClampNeg))) ((sL (setL L 34 (vp_updL (L 34) 0 (0 : Int64))) ((setL L 34 (vp_updL (L 34) 0 (0 : Int64))) 34 0 + (L 36 ((v1 * (256 : Int32)) + v4).toNatClampNeg))) 34 0 + (L 36 ((v2 * (256 : Int32)) + v4).toNatClampNeg))) 37 (vp_updL ((sL (sL (setL L 34 (vp_updL (L 34) 0 (0 : Int64))) ((setL L 34 (vp_updL (L 34) 0 (0 : Int64))) 34 0 + (L 36 ((v1 * (256 : Int32)) + v4).toNatClampNeg))) ((sL (setL L 34 (vp_updL (L 34) 0 (0 : Int64))) ((setL L 34 (vp_updL (L 34) 0 (0 : Int64))) 34 0 + (L 36 ((v1 * (256 : Int32)) + v4).toNatClampNeg))) 34 0 + (L 36 ((v2 * (256 : Int32)) + v4).toNatClampNeg))) 37) v4.toNatClampNeg ((sL (sL (setL L 34 (vp_updL (L 34) 0 (0 : Int64))) ((setL L 34 (vp_updL (L 34) 0 (0 : Int64))) 34 0 + (L 36 ((v1 * (256 : Int32)) + v4).toNatClampNeg))) ((sL (setL L 34 (vp_updL (L 34) 0 (0 : Int64))) ((setL L 34 (vp_updL (L 34) 0 (0 : Int64))) 34 0 + (L 36 ((v1 * (256 : Int32)) + v4).toNatClampNeg))) 34 0 + (L 36 ((v2 * (256 : Int32)) + v4).toNatClampNeg))) 34 0))))) ∧ ((v3 = (3 : Int32)) → vp_in v4 256 ∧ Wx z 0 0 3 [(0, .ref ((zB z).size + 35)), (1, .int v1), (2, .int v2), (3, .int v3), (4, .int (v4 + 1))] [] G (sI I (q_ovA ((setL L 34 (vp_updL (L 34) 0 (0 : Int64))) 34 0) ((L 36 ((v1 * (256 : Int32)) + v4).toNatClampNeg) * (L 36 ((v2 * (256 : Int32)) + v4).toNatClampNeg)) (if q_tl (L 36 ((v1 * (256 : Int32)) + v4).toNatClampNeg) (L 36 ((v2 * (256 : Int32)) + v4).toNatClampNeg) = true then 1 else I 34 1))) (setL (sL (setL L 34 (vp_updL (L 34) 0 (0 : Int64))) ((setL L 34 (vp_updL (L 34) 0 (0 : Int64))) 34 0 + (L 36 ((v1 * (256 : Int32)) + v4).toNatClampNeg) * (L 36 ((v2 * (256 : Int32)) + v4).toNatClampNeg))) 37 (vp_updL ((sL (setL L 34 (vp_updL (L 34) 0 (0 : Int64))) ((setL L 34 (vp_updL (L 34) 0 (0 : Int64))) 34 0 + (L 36 ((v1 * (256 : Int32)) + v4).toNatClampNeg) * (L 36 ((v2 * (256 : Int32)) + v4).toNatClampNeg))) 37) v4.toNatClampNeg ((sL (setL L 34 (vp_updL (L 34) 0 (0 : Int64))) ((setL L 34 (vp_updL (L 34) 0 (0 : Int64))) 34 0 + (L 36 ((v1 * (256 : Int32)) + v4).toNatClampNeg) * (L 36 ((v2 * (256 : Int32)) + v4).toNatClampNeg))) 34 0)))))) : Wx z 0 0 3 [(0, .ref ((zB z).size + 35)), (1, .int v1), (2, .int v2), (3, .int v3), (4, .int v4)] [] G I L := by
  have hz1 := hz.1
  refine am_iload hz1 dX0_reckonEach_3 4 rfl ?_
  refine am_sipush (v := 256) hz1 dX0_reckonEach_5 (by decide) ?_
  refine am_icmp_ge (tgt := 122) hz1 dX0_reckonEach_8 (by decide) (fun c1 => ?_) (fun c1 => ?_)
  · replace h := h.1 c1
    exact am_return hz dX0_reckonEach_122 h
  · replace h := h.2 c1
    refine am_aload_n hz1 dX0_reckonEach_11 0 rfl rfl ?_
    refine am_getR hz1 fl_X0_9 (ln_35 hG) (lk_35 hG) (lr_35_0 hG) rfl dX0_reckonEach_12 ?_
    refine am_iload_n hz1 dX0_reckonEach_15 1 rfl rfl ?_
    refine am_sipush (v := 256) hz1 dX0_reckonEach_16 (by decide) ?_
    refine am_imul hz1 dX0_reckonEach_19 ?_
    refine am_iload hz1 dX0_reckonEach_20 4 rfl ?_
    refine am_iadd hz1 dX0_reckonEach_22 ?_
    obtain ⟨g2, h⟩ := h
    refine am_lald hz1 (ln_36 hG) (lk_36 hG) (by rw [(ll_36 hG)]; exact g2) dX0_reckonEach_23 ?_
    refine am_lstore (lv' := [(5, .long (L 36 ((v1 * (256 : Int32)) + v4).toNatClampNeg)), (0, .ref ((zB z).size + 35)), (1, .int v1), (2, .int v2), (3, .int v3), (4, .int v4)]) hz1 dX0_reckonEach_24 rfl rfl ?_
    refine am_aload_n hz1 dX0_reckonEach_26 1 rfl rfl ?_
    refine am_getR hz1 fl_X0_9 (ln_35 hG) (lk_35 hG) (lr_35_0 hG) rfl dX0_reckonEach_27 ?_
    refine am_iload_n hz1 dX0_reckonEach_30 3 rfl rfl ?_
    refine am_sipush (v := 256) hz1 dX0_reckonEach_31 (by decide) ?_
    refine am_imul hz1 dX0_reckonEach_34 ?_
    refine am_iload hz1 dX0_reckonEach_35 5 rfl ?_
    refine am_iadd hz1 dX0_reckonEach_37 ?_
    obtain ⟨g3, h⟩ := h
    refine am_lald hz1 (ln_36 hG) (lk_36 hG) (by rw [(ll_36 hG)]; exact g3) dX0_reckonEach_38 ?_
    refine am_lstore (lv' := [(7, .long (L 36 ((v2 * (256 : Int32)) + v4).toNatClampNeg)), (5, .long (L 36 ((v1 * (256 : Int32)) + v4).toNatClampNeg)), (0, .ref ((zB z).size + 35)), (1, .int v1), (2, .int v2), (3, .int v3), (4, .int v4)]) hz1 dX0_reckonEach_39 rfl rfl ?_
    refine am_aload_n hz1 dX0_reckonEach_41 2 rfl rfl ?_
    refine am_getR hz1 fl_X0_28 (ln_35 hG) (lk_35 hG) (lr_35_5 hG) rfl dX0_reckonEach_42 ?_
    refine am_lconst (v := 0) hz1 dX0_reckonEach_45 (by decide) ?_
    refine am_putL hz1 fl_X0_80 (ln_34 hG) (lk_34 hG) rfl rfl (fun _ => rfl) dX0_reckonEach_46 ?_
    refine am_iload_n hz1 dX0_reckonEach_49 5 rfl rfl ?_
    refine am_iconst (v := 3) hz1 dX0_reckonEach_50 (by decide) ?_
    refine am_icmp_ne (tgt := 68) hz1 dX0_reckonEach_51 (by decide) (fun c4 => ?_) (fun c4 => ?_)
    · replace h := h.1 c4
      refine am_aload_n hz1 dX0_reckonEach_68 2 rfl rfl ?_
      refine am_getR hz1 fl_X0_28 (ln_35 hG) (lk_35 hG) (lr_35_5 hG) rfl dX0_reckonEach_69 ?_
      refine am_lload hz1 dX0_reckonEach_72 1 rfl ?_
      refine am_cVf hz cv_X0_90 [.long (L 36 ((v1 * (256 : Int32)) + v4).toNatClampNeg)] [] (c_X9_add hG (L 36 ((v1 * (256 : Int32)) + v4).toNatClampNeg) ) (ln_34 hG) (lk_34 hG) rfl rfl rfl ⟨Nat.le_refl _, Nat.le_refl _⟩ (Nat.le_of_ble_eq_true rfl) dX0_reckonEach_74 ?_
      refine am_iload_n hz1 dX0_reckonEach_77 5 rfl rfl ?_
      refine am_if_ne (tgt := 93) hz1 dX0_reckonEach_78 (by decide) (fun c5 => ?_) (fun c5 => ?_)
      · replace h := h.1 c5
        refine am_aload_n hz1 dX0_reckonEach_93 2 rfl rfl ?_
        refine am_getR hz1 fl_X0_28 (ln_35 hG) (lk_35 hG) (lr_35_5 hG) rfl dX0_reckonEach_94 ?_
        refine am_lload hz1 dX0_reckonEach_97 0 rfl ?_
        refine am_cVf hz cv_X0_94 [.long (L 36 ((v2 * (256 : Int32)) + v4).toNatClampNeg)] [] (c_X9_subtract hG (L 36 ((v2 * (256 : Int32)) + v4).toNatClampNeg) ) (ln_34 hG) (lk_34 hG) rfl rfl rfl ⟨Nat.le_refl _, Nat.le_refl _⟩ (Nat.le_of_ble_eq_true rfl) dX0_reckonEach_99 ?_
        refine am_aload_n hz1 dX0_reckonEach_102 2 rfl rfl ?_
        refine am_getR hz1 fl_X0_15 (ln_35 hG) (lk_35 hG) (lr_35_1 hG) rfl dX0_reckonEach_103 ?_
        refine am_iload hz1 dX0_reckonEach_106 6 rfl ?_
        refine am_aload_n hz1 dX0_reckonEach_108 2 rfl rfl ?_
        refine am_getR hz1 fl_X0_28 (ln_35 hG) (lk_35 hG) (lr_35_5 hG) rfl dX0_reckonEach_109 ?_
        refine am_getL hz1 fl_X0_80 (ln_34 hG) (lk_34 hG) rfl dX0_reckonEach_112 ?_
        obtain ⟨g6, h⟩ := h
        refine am_last hz1 (ln_37 hG) (lk_37 hG) (by rw [(ll_37 hG)]; exact g6) dX0_reckonEach_115 ?_
        refine am_iinc (v := v4 + 1) (lv' := [(4, .int (v4 + 1)), (7, .long (L 36 ((v2 * (256 : Int32)) + v4).toNatClampNeg)), (5, .long (L 36 ((v1 * (256 : Int32)) + v4).toNatClampNeg)), (0, .ref ((zB z).size + 35)), (1, .int v1), (2, .int v2), (3, .int v3)]) hz1 dX0_reckonEach_116 6 rfl rfl rfl rfl ?_
        refine am_goto (tgt := 3) hz1 dX0_reckonEach_119 (by decide) ?_
        exact am_sub (lv' := [(0, .ref ((zB z).size + 35)), (1, .int v1), (2, .int v2), (3, .int v3), (4, .int (v4 + 1))]) [3, 4, 5, 6, 0] rfl h
      · replace h := h.2 c5
        refine am_aload_n hz1 dX0_reckonEach_81 2 rfl rfl ?_
        refine am_getR hz1 fl_X0_28 (ln_35 hG) (lk_35 hG) (lr_35_5 hG) rfl dX0_reckonEach_82 ?_
        refine am_lload hz1 dX0_reckonEach_85 0 rfl ?_
        refine am_cVf hz cv_X0_90 [.long (L 36 ((v2 * (256 : Int32)) + v4).toNatClampNeg)] [] (c_X9_add hG (L 36 ((v2 * (256 : Int32)) + v4).toNatClampNeg) ) (ln_34 hG) (lk_34 hG) rfl rfl rfl ⟨Nat.le_refl _, Nat.le_refl _⟩ (Nat.le_of_ble_eq_true rfl) dX0_reckonEach_87 ?_
        refine am_goto (tgt := 102) hz1 dX0_reckonEach_90 (by decide) ?_
        refine am_aload_n hz1 dX0_reckonEach_102 2 rfl rfl ?_
        refine am_getR hz1 fl_X0_15 (ln_35 hG) (lk_35 hG) (lr_35_1 hG) rfl dX0_reckonEach_103 ?_
        refine am_iload hz1 dX0_reckonEach_106 6 rfl ?_
        refine am_aload_n hz1 dX0_reckonEach_108 2 rfl rfl ?_
        refine am_getR hz1 fl_X0_28 (ln_35 hG) (lk_35 hG) (lr_35_5 hG) rfl dX0_reckonEach_109 ?_
        refine am_getL hz1 fl_X0_80 (ln_34 hG) (lk_34 hG) rfl dX0_reckonEach_112 ?_
        obtain ⟨g7, h⟩ := h
        refine am_last hz1 (ln_37 hG) (lk_37 hG) (by rw [(ll_37 hG)]; exact g7) dX0_reckonEach_115 ?_
        refine am_iinc (v := v4 + 1) (lv' := [(4, .int (v4 + 1)), (7, .long (L 36 ((v2 * (256 : Int32)) + v4).toNatClampNeg)), (5, .long (L 36 ((v1 * (256 : Int32)) + v4).toNatClampNeg)), (0, .ref ((zB z).size + 35)), (1, .int v1), (2, .int v2), (3, .int v3)]) hz1 dX0_reckonEach_116 6 rfl rfl rfl rfl ?_
        refine am_goto (tgt := 3) hz1 dX0_reckonEach_119 (by decide) ?_
        exact am_sub (lv' := [(0, .ref ((zB z).size + 35)), (1, .int v1), (2, .int v2), (3, .int v3), (4, .int (v4 + 1))]) [3, 4, 5, 6, 0] rfl h
    · replace h := h.2 c4
      refine am_aload_n hz1 dX0_reckonEach_54 2 rfl rfl ?_
      refine am_getR hz1 fl_X0_28 (ln_35 hG) (lk_35 hG) (lr_35_5 hG) rfl dX0_reckonEach_55 ?_
      refine am_lload hz1 dX0_reckonEach_58 1 rfl ?_
      refine am_lload hz1 dX0_reckonEach_60 0 rfl ?_
      refine am_cVf hz cv_X0_86 [.long (L 36 ((v1 * (256 : Int32)) + v4).toNatClampNeg), .long (L 36 ((v2 * (256 : Int32)) + v4).toNatClampNeg)] [] (c_X9_addProduct hG (L 36 ((v1 * (256 : Int32)) + v4).toNatClampNeg) (L 36 ((v2 * (256 : Int32)) + v4).toNatClampNeg) ) (ln_34 hG) (lk_34 hG) rfl rfl rfl ⟨Nat.le_refl _, Nat.le_refl _⟩ (Nat.le_of_ble_eq_true rfl) dX0_reckonEach_62 ?_
      refine am_goto (tgt := 102) hz1 dX0_reckonEach_65 (by decide) ?_
      refine am_aload_n hz1 dX0_reckonEach_102 2 rfl rfl ?_
      refine am_getR hz1 fl_X0_15 (ln_35 hG) (lk_35 hG) (lr_35_1 hG) rfl dX0_reckonEach_103 ?_
      refine am_iload hz1 dX0_reckonEach_106 6 rfl ?_
      refine am_aload_n hz1 dX0_reckonEach_108 2 rfl rfl ?_
      refine am_getR hz1 fl_X0_28 (ln_35 hG) (lk_35 hG) (lr_35_5 hG) rfl dX0_reckonEach_109 ?_
      refine am_getL hz1 fl_X0_80 (ln_34 hG) (lk_34 hG) rfl dX0_reckonEach_112 ?_
      obtain ⟨g8, h⟩ := h
      refine am_last hz1 (ln_37 hG) (lk_37 hG) (by rw [(ll_37 hG)]; exact g8) dX0_reckonEach_115 ?_
      refine am_iinc (v := v4 + 1) (lv' := [(4, .int (v4 + 1)), (7, .long (L 36 ((v2 * (256 : Int32)) + v4).toNatClampNeg)), (5, .long (L 36 ((v1 * (256 : Int32)) + v4).toNatClampNeg)), (0, .ref ((zB z).size + 35)), (1, .int v1), (2, .int v2), (3, .int v3)]) hz1 dX0_reckonEach_116 6 rfl rfl rfl rfl ?_
      refine am_goto (tgt := 3) hz1 dX0_reckonEach_119 (by decide) ?_
      exact am_sub (lv' := [(0, .ref ((zB z).size + 35)), (1, .int v1), (2, .int v2), (3, .int v3), (4, .int (v4 + 1))]) [3, 4, 5, 6, 0] rfl h
set_option maxRecDepth 100000 in
set_option maxHeartbeats 4000000 in
theorem c_X0_reckonEach {l : Launch} {D : va_G} {B : Heap} {G : amG} {I : amI} {L : amL}  (hG : Lay G)  (v1 : Int32) (v2 : Int32) (v3 : Int32) {x y : Nat} {b : Bool} (hb : I 34 1 = bI b) (hx : x < 4) (hy : y < 4) (hv1 : v1 = nI x) (hv2 : v2 = nI y) : Mx l D B yX0_reckonEach cX0_reckonEach 9 none 2 0 0 [.ref (B.size + 35), .int v1, .int v2, .int v3] G I L (fun r G1 I1 L1 => r = none ∧ G1 = G ∧ I1 = sI I (bI (b || orN (fun i => eO v3 (L 36 (256 * x + i)) (L 36 (256 * y + i))) 256)) ∧ ∃ (f : Nat → Int64) (t : Int64), L1 = sL (setL L 37 f) t ∧ ∀ i, i < 256 → f i = eV v3 (L 36 (256 * x + i)) (L 36 (256 * y + i))) := by
  refine Mx.of (by decide) rfl rfl (fun z e1 e2 e3 hz => ?_)
  subst e1; subst e2; subst e3
  refine b_X0_reckonEach_0 hz hG ?_
  subst hv1; subst hv2
  have main : ∀ (f : Nat → Int64) (t : Int64), (∀ i, i < 0 → f i = eV v3 (L 36 (256 * x + i)) (L 36 (256 * y + i))) → Wx z 0 0 3 [(0, .ref ((zB z).size + 35)), (1, .int (nI x)), (2, .int (nI y)), (3, .int v3), (4, .int (nI 0))] [] G (sI I (bI (b || orN (fun i => eO v3 (L 36 (256 * x + i)) (L 36 (256 * y + i))) 0))) (sL (setL L 37 f) t) := by
    refine for_up (P := fun k => ∀ (f : Nat → Int64) (t : Int64), (∀ i, i < k → f i = eV v3 (L 36 (256 * x + i)) (L 36 (256 * y + i))) → Wx z 0 0 3 [(0, .ref ((zB z).size + 35)), (1, .int (nI x)), (2, .int (nI y)), (3, .int v3), (4, .int (nI k))] [] G (sI I (bI (b || orN (fun i => eO v3 (L 36 (256 * x + i)) (L 36 (256 * y + i))) k))) (sL (setL L 37 f) t)) (n := 256) ?_ ?_ (Nat.zero_le _)
    · intro f t hf
      exact b_X0_reckonEach_3 hz hG ⟨fun _ => ⟨rfl, rfl, rfl, f, t, rfl, hf⟩, fun h => absurd (show (256 : Int32) ≤ nI 256 by decide) h⟩
    · intro k hk ih f t hf
      have hnext : ∀ (v : Int64), v = eV v3 (L 36 (256 * x + k)) (L 36 (256 * y + k)) → ∀ i, i < k + 1 → vp_updL f k v i = eV v3 (L 36 (256 * x + i)) (L 36 (256 * y + i)) := by
        intro v hv i hi
        by_cases e : i = k
        · subst e; rw [pk_uLs, hv]
        · rw [pk_uLn e]; exact hf i (by omega)
      have c1 : (nI x * 256 + nI k) = nI (256 * x + k) := by rw [show (256 : Int32) = nI 256 from rfl, pk_mul, nI_add, Nat.mul_comm]
      have c2 : (nI y * 256 + nI k) = nI (256 * y + k) := by rw [show (256 : Int32) = nI 256 from rfl, pk_mul, nI_add, Nat.mul_comm]
      refine b_X0_reckonEach_3 hz hG ⟨fun h => absurd h (nI_ge (a := k) (b := 256) hk (by decide)), fun _ => ?_⟩
      rw [c1, c2, cl_nI (n := 256 * x + k) (by omega), cl_nI (n := 256 * y + k) (by omega), cl_nI (n := k) (by omega), nI_1]
      simp only [sL_f, sL_v, sL_s, sL_36, sL_37, s37_36, setL_s, pk_uLs, sI_v, sI_s, sL_sw (show 37 ≠ 34 by decide), setL_ss, ovA_b, ov_b, ovS_b, ovc_0, Bool.or_false, Int64.zero_add]
      refine ⟨in_nI (by omega) (by decide), in_nI (by omega) (by decide), fun h3 => ⟨fun h0 => ⟨in_nI (by omega) (by decide), ?_⟩, fun h0 => ⟨in_nI (by omega) (by decide), ?_⟩⟩, fun h3 => ⟨in_nI (by omega) (by decide), ?_⟩⟩
      · have := ih _ (L 36 (256 * x + k) - L 36 (256 * y + k)) (hnext _ (by rw [eV, if_neg h3, if_neg h0]))
        rw [orN_or, show eO v3 (L 36 (256 * x + k)) (L 36 (256 * y + k)) = q_ovd (L 36 (256 * x + k)) (L 36 (256 * y + k)) by rw [eO, if_neg h3, if_neg h0]] at this
        exact this
      · have := ih _ (L 36 (256 * x + k) + L 36 (256 * y + k)) (hnext _ (by rw [eV, if_neg h3, if_pos h0]))
        rw [orN_or, show eO v3 (L 36 (256 * x + k)) (L 36 (256 * y + k)) = q_ovc (L 36 (256 * x + k)) (L 36 (256 * y + k)) by rw [eO, if_neg h3, if_pos h0]] at this
        exact this
      · have := ih _ (L 36 (256 * x + k) * L 36 (256 * y + k)) (hnext _ (by rw [eV, if_pos h3]))
        rw [orN_or, show eO v3 (L 36 (256 * x + k)) (L 36 (256 * y + k)) = q_tl (L 36 (256 * x + k)) (L 36 (256 * y + k)) by rw [eO, if_pos h3]] at this
        exact this
  have := main (L 37) (L 34 0) (fun i hi => absurd hi (Nat.not_lt_zero _))
  rw [setL_id, sL_id, orN, Bool.or_false, ← hb, sI_id] at this
  exact this

/-- powers, as tables; and whether a step went beyond -/
def pwT (I : amI) (L : amL) (n : Nat) (A : Nat → Int32) (x : Nat) : Nat → Nat → Nat → Int64
  | 0 => kdV I 1 n A
  | k + 1 => fun a b => tS (fun w => if a < n ∧ w < n then pwT I L n A x k a w else 0) (QFx L x b) (q_between I 3 (nI a) (nI b)) n
def pwO (I : amI) (L : amL) (n : Nat) (A : Nat → Int32) (x k : Nat) : Bool := orN (fun a => orN (fun b => oS (fun w => if a < n ∧ w < n then pwT I L n A x k a w else 0) (QFx L x b) (q_between I 3 (nI a) (nI b)) n) n) n
theorem orN_mono {p : Nat → Bool} {m : Nat} : ∀ {n : Nat}, m ≤ n → orN p m = true → orN p n = true := by
  intro n h hm
  rw [orN_t] at hm ⊢
  obtain ⟨i, hi, e⟩ := hm
  exact ⟨i, by omega, e⟩
theorem KV_c {V V' : Nat → Nat → Int64} {n : Nat} {f : Nat → Int64} (h : KV V n f) (hv : ∀ a b, a < n → b < n → V a b = V' a b) : KV V' n f := by
  intro x y hx hy
  rw [h x y hx hy]
  by_cases c : x < n ∧ y < n
  · rw [if_pos c, if_pos c, hv x y c.1 c.2]
  · rw [if_neg c, if_neg c]
set_option maxRecDepth 100000 in
set_option maxHeartbeats 4000000 in
theorem b_X0_reckonPower_0 {z : amZ} {post : amP} {G : amG} {I : amI} {L : amL} (hz : Go z cX0_reckonPower RX0 4 none 5 0 0 post) (hG : Lay G) {v1 : Int32} {v2 : Int32} (h : ∃ (dq1 : Nat) (postq1 : amP), Nat.ble (dq1 + 1) 5 = true ∧ Mx (zL z) (zD z) (zB z) yX0_reckonKind cX0_reckonKind 4 none dq1 0 0 [.ref ((zB z).size + 35), .int 1] G I L postq1 ∧ ∀ (roq1 : Option Value) (Gq1 : amG) (Iq1 : amI) (Lq1 : amL), postq1 roq1 Gq1 Iq1 Lq1 → roq1 = none ∧ Lay Gq1 ∧ Wx z 0 0 7 [(0, .ref ((zB z).size + 35)), (1, .int v1), (2, .int v2), (3, .int 0)] [] Gq1 Iq1 Lq1) : Wx z 0 0 0 [(0, .ref ((zB z).size + 35)), (1, .int v1), (2, .int v2)] [] G I L := by
  have hz1 := hz.1
  refine am_aload_n hz1 dX0_reckonPower_0 0 rfl rfl ?_
  refine am_iconst (v := 1) hz1 dX0_reckonPower_1 (by decide) ?_
  obtain ⟨dq1, postq1, hdq1, hMq1, h⟩ := h
  refine am_callV hz1 cv_X0_100 [.int 1] [] hMq1 (ln_35 hG) (lk_35 hG) rfl rfl (hz.fr hdq1) (hz.lo hdq1) (by rw [hz.2.1]; exact ⟨Nat.le_refl _, Nat.le_refl _⟩) (Nat.le_of_ble_eq_true rfl) dX0_reckonPower_2 (fun roq1 Gq1 Iq1 Lq1 hpq1 => ?_)
  obtain ⟨rfl, hGq1, h⟩ := h roq1 Gq1 Iq1 Lq1 hpq1
  refine am_iconst (v := 0) hz1 dX0_reckonPower_5 (by decide) ?_
  refine am_istore_n (lv' := [(3, .int 0), (0, .ref ((zB z).size + 35)), (1, .int v1), (2, .int v2)]) hz1 dX0_reckonPower_6 rfl rfl rfl ?_
  exact am_sub (lv' := [(0, .ref ((zB z).size + 35)), (1, .int v1), (2, .int v2), (3, .int 0)]) [1, 2, 3, 0] rfl h
set_option maxRecDepth 100000 in
set_option maxHeartbeats 4000000 in
theorem b_X0_reckonPower_7 {z : amZ} {post : amP} {G : amG} {I : amI} {L : amL} (hz : Go z cX0_reckonPower RX0 4 none 5 0 0 post) (hG : Lay G) {v1 : Int32} {v2 : Int32} {v3 : Int32} (h : ((v2 ≤ v3) → post none G I L) ∧ ((¬ v2 ≤ v3) → ((¬ (I 34 1) = 0) → post none G I L) ∧ (((I 34 1) = 0) → ∃ (dq4 : Nat) (postq4 : amP), Nat.ble (dq4 + 1) 5 = true ∧ Mx (zL z) (zD z) (zB z) yX0_reckonProduct cX0_reckonProduct 8 none dq4 0 0 [.ref ((zB z).size + 35), .ref ((zB z).size + 38), .int 0, .int v1] G I (setL L 38 (va_cpy (L 37) (L 38) (0 : Int32).toNatClampNeg (0 : Int32).toNatClampNeg (256 : Int32).toNatClampNeg)) postq4 ∧ ∀ (roq4 : Option Value) (Gq4 : amG) (Iq4 : amI) (Lq4 : amL), postq4 roq4 Gq4 Iq4 Lq4 → roq4 = none ∧ Lay Gq4 ∧ Wx z 0 0 7 [(0, .ref ((zB z).size + 35)), (1, .int v1), (2, .int v2), (3, .int (v3 + 1))] [] Gq4 Iq4 Lq4))) : Wx z 0 0 7 [(0, .ref ((zB z).size + 35)), (1, .int v1), (2, .int v2), (3, .int v3)] [] G I L := by
  have hz1 := hz.1
  refine am_iload_n hz1 dX0_reckonPower_7 3 rfl rfl ?_
  refine am_iload_n hz1 dX0_reckonPower_8 2 rfl rfl ?_
  refine am_icmp_ge (tgt := 54) hz1 dX0_reckonPower_9 (by decide) (fun c1 => ?_) (fun c1 => ?_)
  · replace h := h.1 c1
    exact am_return hz dX0_reckonPower_54 h
  · replace h := h.2 c1
    refine am_aload_n hz1 dX0_reckonPower_12 0 rfl rfl ?_
    refine am_getR hz1 fl_X0_28 (ln_35 hG) (lk_35 hG) (lr_35_5 hG) rfl dX0_reckonPower_13 ?_
    refine am_getI hz1 fl_X0_104 (ln_34 hG) (lk_34 hG) rfl dX0_reckonPower_16 ?_
    refine am_if_ne (tgt := 54) hz1 dX0_reckonPower_19 (by decide) (fun c2 => ?_) (fun c2 => ?_)
    · replace h := h.1 c2
      exact am_return hz dX0_reckonPower_54 h
    · replace h := h.2 c2
      refine am_aload_n hz1 dX0_reckonPower_22 0 rfl rfl ?_
      refine am_getR hz1 fl_X0_15 (ln_35 hG) (lk_35 hG) (lr_35_1 hG) rfl dX0_reckonPower_23 ?_
      refine am_iconst (v := 0) hz1 dX0_reckonPower_26 (by decide) ?_
      refine am_aload_n hz1 dX0_reckonPower_27 0 rfl rfl ?_
      refine am_getR hz1 fl_X0_18 (ln_35 hG) (lk_35 hG) (lr_35_2 hG) rfl dX0_reckonPower_28 ?_
      refine am_iconst (v := 0) hz1 dX0_reckonPower_31 (by decide) ?_
      refine am_sipush (v := 256) hz1 dX0_reckonPower_32 (by decide) ?_
      refine am_copyL hz ml_X0_42 (ln_37 hG) (lk_37 hG) (ln_38 hG) (lk_38 hG) (by decide) (by decide) (by decide) (by rw [(ll_37 hG)]; decide) (by rw [(ll_38 hG)]; decide) rfl (Nat.le_of_ble_eq_true rfl) dX0_reckonPower_35 ?_
      refine am_aload_n hz1 dX0_reckonPower_38 0 rfl rfl ?_
      refine am_aload_n hz1 dX0_reckonPower_39 0 rfl rfl ?_
      refine am_getR hz1 fl_X0_18 (ln_35 hG) (lk_35 hG) (lr_35_2 hG) rfl dX0_reckonPower_40 ?_
      refine am_iconst (v := 0) hz1 dX0_reckonPower_43 (by decide) ?_
      refine am_iload_n hz1 dX0_reckonPower_44 1 rfl rfl ?_
      obtain ⟨dq4, postq4, hdq4, hMq4, h⟩ := h
      refine am_callV hz1 cv_X0_108 [.ref ((zB z).size + 38), .int 0, .int v1] [] hMq4 (ln_35 hG) (lk_35 hG) rfl rfl (hz.fr hdq4) (hz.lo hdq4) (by rw [hz.2.1]; exact ⟨Nat.le_refl _, Nat.le_refl _⟩) (Nat.le_of_ble_eq_true rfl) dX0_reckonPower_45 (fun roq4 Gq4 Iq4 Lq4 hpq4 => ?_)
      obtain ⟨rfl, hGq4, h⟩ := h roq4 Gq4 Iq4 Lq4 hpq4
      refine am_iinc (v := v3 + 1) (lv' := [(3, .int (v3 + 1)), (0, .ref ((zB z).size + 35)), (1, .int v1), (2, .int v2)]) hz1 dX0_reckonPower_48 3 rfl rfl rfl rfl ?_
      refine am_goto (tgt := 7) hz1 dX0_reckonPower_51 (by decide) ?_
      exact am_sub (lv' := [(0, .ref ((zB z).size + 35)), (1, .int v1), (2, .int v2), (3, .int (v3 + 1))]) [1, 2, 3, 0] rfl h
set_option maxRecDepth 100000 in
set_option maxHeartbeats 4000000 in
theorem c_X0_reckonPower {l : Launch} {D : va_G} {B : Heap} {G : amG} {I : amI} {L : amL}  (hG : Lay G)  (v1 : Int32) (v2 : Int32) {n x m : Nat} {A : Nat → Int32} (hO : OI I 3 n A) (hb : I 34 1 = bI false) (hx : x < 4) (hm : m ≤ 20) (hv1 : v1 = nI x) (hv2 : v2 = nI m) : Mx l D B yX0_reckonPower cX0_reckonPower 4 none 5 0 0 [.ref (B.size + 35), .int v1, .int v2] G I L (fun r G1 I1 L1 => r = none ∧ G1 = G ∧ I1 = sI I (bI (orN (pwO I L n A x) m)) ∧ ∃ (f g h : Nat → Int64) (t : Int64), L1 = sL (setL (setL (setL L 37 f) 38 g) 39 h) t ∧ (orN (pwO I L n A x) m = false → KV (pwT I L n A x m) n f)) := by
  refine Mx.of (by decide) rfl rfl (fun z e1 e2 e3 hz => ?_)
  subst e1; subst e2; subst e3
  refine b_X0_reckonPower_0 hz hG ?_
  subst hv1; subst hv2
  have hn := hO.1
  have h16 := hO.2.2.1
  have e36 : ∀ (f g h : Nat → Int64) (t : Int64), sL (setL (setL (setL L 37 f) 38 g) 39 h) t 36 = L 36 := fun f g h t => by rw [sL_36, setL_n (by decide), setL_n (by decide), setL_n (by decide)]
  have e37 : ∀ (f g h : Nat → Int64) (t : Int64), sL (setL (setL (setL L 37 f) 38 g) 39 h) t 37 = f := fun f g h t => by rw [sL_37, setL_n (by decide), setL_n (by decide), setL_s]
  have s38 : ∀ (f g h : Nat → Int64) (t : Int64) (g' : Nat → Int64), setL (sL (setL (setL (setL L 37 f) 38 g) 39 h) t) 38 g' = sL (setL (setL (setL L 37 f) 38 g') 39 h) t := fun f g h t g' => by
    rw [sL_sw (by decide)]
    congr 1
    funext q
    by_cases h1 : q = 38
    · subst h1; rw [setL_s, setL_n (by decide), setL_s]
    · rw [setL_n h1]
      by_cases h2 : q = 39
      · subst h2; rw [setL_s, setL_s]
      · rw [setL_n h2, setL_n h2, setL_n h1, setL_n h1]
  have s37 : ∀ (f g h : Nat → Int64) (t t' : Int64) (f' : Nat → Int64), sL (setL (sL (setL (setL (setL L 37 f) 38 g) 39 h) t) 37 f') t' = sL (setL (setL (setL L 37 f') 38 g) 39 h) t' := fun f g h t t' f' => by
    rw [sL_sw (by decide), sL_s]
    congr 1
    funext q
    by_cases h1 : q = 37
    · subst h1; rw [setL_s, setL_n (by decide), setL_n (by decide), setL_s]
    · rw [setL_n h1]
      by_cases h2 : q = 39
      · subst h2; rw [setL_s, setL_s]
      · rw [setL_n h2, setL_n h2]
        by_cases h3 : q = 38
        · subst h3; rw [setL_s, setL_s]
        · rw [setL_n h3, setL_n h3, setL_n h1, setL_n h1]
  have main : ∀ (f g h : Nat → Int64) (t : Int64), orN (pwO I L n A x) 0 = false → KV (pwT I L n A x 0) n f → Wx z 0 0 7 [(0, .ref ((zB z).size + 35)), (1, .int (nI x)), (2, .int (nI m)), (3, .int (nI 0))] [] G (sI I (bI (orN (pwO I L n A x) 0))) (sL (setL (setL (setL L 37 f) 38 g) 39 h) t) := by
    refine for_up (P := fun k => ∀ (f g h : Nat → Int64) (t : Int64), orN (pwO I L n A x) k = false → KV (pwT I L n A x k) n f → Wx z 0 0 7 [(0, .ref ((zB z).size + 35)), (1, .int (nI x)), (2, .int (nI m)), (3, .int (nI k))] [] G (sI I (bI (orN (pwO I L n A x) k))) (sL (setL (setL (setL L 37 f) 38 g) 39 h) t)) (n := m) ?_ ?_ (Nat.zero_le _)
    · intro f g h t ho hf
      exact b_X0_reckonPower_7 hz hG ⟨fun _ => ⟨rfl, rfl, rfl, f, g, h, t, rfl, fun _ => hf⟩, fun h => absurd (nI_le (Nat.le_refl _) (by omega)) h⟩
    · intro k hk ih f g h t ho hf
      refine b_X0_reckonPower_7 hz hG ⟨fun h => absurd h (nI_ge hk (by omega)), fun _ => ⟨fun h1 => absurd (by rw [sI_v, ho]; rfl) h1, fun _ => ?_⟩⟩
      rw [e37, s38]
      have hK : sI I (bI (orN (pwO I L n A x) k)) 3 0 = nI n := by rw [sI_o (by decide), hn]
      refine ⟨3, _, rfl, c_X0_reckonProduct hG (ln_38 hG) (lk_38 hG) (ll_38 hG) 0 (nI x) (n := n) (beg := 0) (y := x) (b := orN (pwO I L n A x) k) hK hO.2.1 h16 sI_v (by decide) (by decide) (by decide) (by decide) hx rfl rfl, ?_⟩
      rintro ro G1 I1 L1 ⟨rfl, rfl, rfl, f', t', rfl, hf'⟩
      refine ⟨rfl, hG, ?_⟩
      rw [sI_s, s37, nI_1]
      have hcp : ∀ a w, a < n → w < n → PFx (sL (setL (setL (setL L 37 f) 38 (va_cpy f (sL (setL (setL (setL L 37 f) 38 g) 39 h) t 38) (0 : Int32).toNatClampNeg (0 : Int32).toNatClampNeg (256 : Int32).toNatClampNeg)) 39 h) t) 38 0 a w = if a < n ∧ w < n then pwT I L n A x k a w else 0 := by
        intro a w ha hw
        rw [PFx, sL_38, setL_n (by decide), setL_s, Nat.zero_add]
        rw [pk_cpy_in (by show (0 : Int32).toNatClampNeg ≤ _; exact Nat.zero_le _) (by show 16 * a + w < (0 : Int32).toNatClampNeg + (256 : Int32).toNatClampNeg; show 16 * a + w < 256; omega)]
        show f (0 + (16 * a + w - 0)) = _
        rw [Nat.zero_add, Nat.sub_zero, hf a w (by omega) (by omega)]
      have hq : ∀ b w, QFx (sL (setL (setL (setL L 37 f) 38 (va_cpy f (sL (setL (setL (setL L 37 f) 38 g) 39 h) t 38) (0 : Int32).toNatClampNeg (0 : Int32).toNatClampNeg (256 : Int32).toNatClampNeg)) 39 h) t) x b w = QFx L x b w := fun b w => by rw [QFx, QFx, e36]
      have hbt : ∀ v p q, q_between (sI I v) 3 p q = q_between I 3 p q := fun v p q => btw_c (sI_o (by decide)) (sI_o (by decide)) (sI_o (by decide))
      have hfl : orN (fun a => orN (prO (sI I (bI (orN (pwO I L n A x) k))) (sL (setL (setL (setL L 37 f) 38 (va_cpy f (sL (setL (setL (setL L 37 f) 38 g) 39 h) t 38) (0 : Int32).toNatClampNeg (0 : Int32).toNatClampNeg (256 : Int32).toNatClampNeg)) 39 h) t) 38 0 x n a) n) n = pwO I L n A x k := by
        unfold pwO
        refine orN_c fun a ha => orN_c fun b hb => ?_
        rw [prO, hbt]
        exact oS_c fun w hw _ => ⟨hcp a w ha hw, hq b w⟩
      rw [hfl]
      have hor : (orN (pwO I L n A x) k || pwO I L n A x k) = orN (pwO I L n A x) (k + 1) := by rw [orN]
      rw [hor]
      by_cases hov : orN (pwO I L n A x) (k + 1) = true
      · refine b_X0_reckonPower_7 hz hG ⟨fun _ => ⟨rfl, rfl, ?_, f', _, h, t', rfl, fun e => ?_⟩, fun _ => ⟨fun _ => ⟨rfl, rfl, ?_, f', _, h, t', rfl, fun e => ?_⟩, fun h1 => absurd h1 (by rw [sI_v, hov]; decide)⟩⟩
        · rw [hov, orN_mono (by omega) hov]
        · rw [orN_mono (by omega) hov] at e; cases e
        · rw [hov, orN_mono (by omega) hov]
        · rw [orN_mono (by omega) hov] at e; cases e
      · rw [Bool.not_eq_true] at hov
        refine ih f' _ h t' hov (KV_c hf' fun a b ha hb => ?_)
        rw [prV, hbt, pwT]
        exact tS_c fun w hw _ => ⟨hcp a w ha hw, hq b w⟩
  refine ⟨4, _, rfl, c_X0_reckonKind hG 1 hO, ?_⟩
  rintro ro G1 I1 L1 ⟨rfl, rfl, rfl, f, g, rfl, hf⟩
  refine ⟨rfl, hG, ?_⟩
  have := main f (L 38) g (L 34 0) rfl hf
  rw [orN, ← hb, sI_id] at this
  have e : sL (setL (setL (setL L 37 f) 38 (L 38)) 39 g) (L 34 0) = setL (setL L 37 f) 39 g := by
    have h1 : setL (setL L 37 f) 38 (L 38) = setL L 37 f := by
      have := setL_id (L := setL L 37 f) (p := 38)
      rwa [setL_n (by decide)] at this
    rw [h1]
    have := sL_id (L := setL (setL L 37 f) 39 g)
    rwa [setL_n (by decide), setL_n (by decide)] at this
  rw [e] at this
  exact this
