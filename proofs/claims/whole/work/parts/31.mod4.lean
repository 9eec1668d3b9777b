/-! THE REFERENCE: functions as tables -/
theorem mtl_t {a b : Int64} (h1 : ¬ a = 0) (h2 : ¬ b = 0) (h : (a = -1 ∧ b = -9223372036854775808) ∨ (b = -1 ∧ a = -9223372036854775808) ∨ ¬ (a * b) / b = a) : q_mtl a b = true := by
  rw [q_mtl, decide_eq_false h1, decide_eq_false h2]
  rcases h with h | h | h
  · rw [decide_eq_true h.1, decide_eq_true h.2]; rfl
  · rw [decide_eq_true h.1, decide_eq_true h.2]; simp
  · rw [decide_eq_true h]; simp
theorem mtl_f {a b : Int64} (h : (a = 0 ∨ b = 0) ∨ (¬ (a = -1 ∧ b = -9223372036854775808) ∧ ¬ (b = -1 ∧ a = -9223372036854775808) ∧ (a * b) / b = a)) : q_mtl a b = false := by
  rw [q_mtl]
  rcases h with (h | h) | ⟨h1, h2, h3⟩
  · rw [decide_eq_true h]; rfl
  · rw [decide_eq_true h, Bool.or_true]; rfl
  · rw [decide_eq_false (not_not_intro h3), ← Bool.decide_and, ← Bool.decide_and, decide_eq_false h1, decide_eq_false h2]; simp
set_option maxRecDepth 100000 in
set_option maxHeartbeats 4000000 in
theorem b_X12_times_0 {z : amZ} {post : amP} {G : amG} {I : amI} {L : amL} (hz : Go z cX12_times RX12 7 (some .long) 0 0 0 post) (hG : Lay G) {v1 : Int64} {v3 : Int64} (h : ((v1 = (0 : Int64)) → post (some (.long (0 : Int64))) G I L) ∧ ((¬ v1 = (0 : Int64)) → ((¬ v3 = (0 : Int64)) → ((¬ v1 = (-1 : Int64)) → ((¬ v3 = (-1 : Int64)) → ¬ v3 = 0 ∧ ((((v1 * v3) / v3) = v1) → post (some (.long (v1 * v3))) G I L) ∧ ((¬ ((v1 * v3) / v3) = v1) → post (some (.long (v1 * v3))) G (setI I 64 (upd (I 64) 15 (1 : Int32))) L)) ∧ ((v3 = (-1 : Int64)) → ((v1 = (-9223372036854775808 : Int64)) → post (some (.long (v1 * v3))) G (setI I 64 (upd (I 64) 15 (1 : Int32))) L) ∧ ((¬ v1 = (-9223372036854775808 : Int64)) → ¬ v3 = 0 ∧ ((((v1 * v3) / v3) = v1) → post (some (.long (v1 * v3))) G I L) ∧ ((¬ ((v1 * v3) / v3) = v1) → post (some (.long (v1 * v3))) G (setI I 64 (upd (I 64) 15 (1 : Int32))) L)))) ∧ ((v1 = (-1 : Int64)) → ((v3 = (-9223372036854775808 : Int64)) → post (some (.long (v1 * v3))) G (setI I 64 (upd (I 64) 15 (1 : Int32))) L) ∧ ((¬ v3 = (-9223372036854775808 : Int64)) → ((¬ v3 = (-1 : Int64)) → ¬ v3 = 0 ∧ ((((v1 * v3) / v3) = v1) → post (some (.long (v1 * v3))) G I L) ∧ ((¬ ((v1 * v3) / v3) = v1) → post (some (.long (v1 * v3))) G (setI I 64 (upd (I 64) 15 (1 : Int32))) L)) ∧ ((v3 = (-1 : Int64)) → ((v1 = (-9223372036854775808 : Int64)) → post (some (.long (v1 * v3))) G (setI I 64 (upd (I 64) 15 (1 : Int32))) L) ∧ ((¬ v1 = (-9223372036854775808 : Int64)) → ¬ v3 = 0 ∧ ((((v1 * v3) / v3) = v1) → post (some (.long (v1 * v3))) G I L) ∧ ((¬ ((v1 * v3) / v3) = v1) → post (some (.long (v1 * v3))) G (setI I 64 (upd (I 64) 15 (1 : Int32))) L)))))) ∧ ((v3 = (0 : Int64)) → post (some (.long (0 : Int64))) G I L))) : Wx z 0 0 0 [(0, .ref ((zB z).size + 64)), (1, .long v1), (3, .long v3)] [] G I L := by
  have hz1 := hz.1
  refine am_lload_n hz1 dX12_times_0 1 rfl rfl ?_
  refine am_lconst (v := 0) hz1 dX12_times_1 (by decide) ?_
  refine am_lif_eq (tgt := 12) hz1 dX12_times_2 dX12_times_3 (by decide) (fun c1 => ?_) (fun c1 => ?_)
  · replace h := h.1 c1
    refine am_lconst (v := 0) hz1 dX12_times_12 (by decide) ?_
    exact am_lreturn hz dX12_times_13 h
  · replace h := h.2 c1
    refine am_lload_n hz1 dX12_times_6 2 rfl rfl ?_
    refine am_lconst (v := 0) hz1 dX12_times_7 (by decide) ?_
    refine am_lif_ne (tgt := 14) hz1 dX12_times_8 dX12_times_9 (by decide) (fun c2 => ?_) (fun c2 => ?_)
    · replace h := h.1 c2
      refine am_lload_n hz1 dX12_times_14 1 rfl rfl ?_
      refine am_lload_n hz1 dX12_times_15 2 rfl rfl ?_
      refine am_lmul hz1 dX12_times_16 ?_
      refine am_lstore (lv' := [(5, .long (v1 * v3)), (0, .ref ((zB z).size + 64)), (1, .long v1), (3, .long v3)]) hz1 dX12_times_17 rfl rfl ?_
      refine am_lload_n hz1 dX12_times_19 2 rfl rfl ?_
      refine am_ldc2 hz1 kc_X12_118 dX12_times_20 ?_
      refine am_lif_ne (tgt := 35) hz1 dX12_times_23 dX12_times_24 (by decide) (fun c3 => ?_) (fun c3 => ?_)
      · replace h := h.1 c3
        refine am_lload_n hz1 dX12_times_35 3 rfl rfl ?_
        refine am_ldc2 hz1 kc_X12_118 dX12_times_36 ?_
        refine am_lif_ne (tgt := 51) hz1 dX12_times_39 dX12_times_40 (by decide) (fun c4 => ?_) (fun c4 => ?_)
        · replace h := h.1 c4
          refine am_lload hz1 dX12_times_51 0 rfl ?_
          refine am_lload_n hz1 dX12_times_53 3 rfl rfl ?_
          obtain ⟨g5, h⟩ := h
          refine am_ldiv hz1 dX12_times_54 g5 ?_
          refine am_lload_n hz1 dX12_times_55 2 rfl rfl ?_
          refine am_lif_eq (tgt := 65) hz1 dX12_times_56 dX12_times_57 (by decide) (fun c6 => ?_) (fun c6 => ?_)
          · replace h := h.1 c6
            refine am_lload hz1 dX12_times_65 0 rfl ?_
            exact am_lreturn hz dX12_times_67 h
          · replace h := h.2 c6
            refine am_aload_n hz1 dX12_times_60 1 rfl rfl ?_
            refine am_iconst (v := 1) hz1 dX12_times_61 (by decide) ?_
            refine am_putI hz1 fl_X12_271 (ln_64 hG) (lk_64 hG) rfl rfl (fun _ => rfl) dX12_times_62 ?_
            refine am_lload hz1 dX12_times_65 0 rfl ?_
            exact am_lreturn hz dX12_times_67 h
        · replace h := h.2 c4
          refine am_lload_n hz1 dX12_times_43 2 rfl rfl ?_
          refine am_ldc2 hz1 kc_X12_269 dX12_times_44 ?_
          refine am_lif_eq (tgt := 60) hz1 dX12_times_47 dX12_times_48 (by decide) (fun c7 => ?_) (fun c7 => ?_)
          · replace h := h.1 c7
            refine am_aload_n hz1 dX12_times_60 1 rfl rfl ?_
            refine am_iconst (v := 1) hz1 dX12_times_61 (by decide) ?_
            refine am_putI hz1 fl_X12_271 (ln_64 hG) (lk_64 hG) rfl rfl (fun _ => rfl) dX12_times_62 ?_
            refine am_lload hz1 dX12_times_65 0 rfl ?_
            exact am_lreturn hz dX12_times_67 h
          · replace h := h.2 c7
            refine am_lload hz1 dX12_times_51 0 rfl ?_
            refine am_lload_n hz1 dX12_times_53 3 rfl rfl ?_
            obtain ⟨g8, h⟩ := h
            refine am_ldiv hz1 dX12_times_54 g8 ?_
            refine am_lload_n hz1 dX12_times_55 2 rfl rfl ?_
            refine am_lif_eq (tgt := 65) hz1 dX12_times_56 dX12_times_57 (by decide) (fun c9 => ?_) (fun c9 => ?_)
            · replace h := h.1 c9
              refine am_lload hz1 dX12_times_65 0 rfl ?_
              exact am_lreturn hz dX12_times_67 h
            · replace h := h.2 c9
              refine am_aload_n hz1 dX12_times_60 1 rfl rfl ?_
              refine am_iconst (v := 1) hz1 dX12_times_61 (by decide) ?_
              refine am_putI hz1 fl_X12_271 (ln_64 hG) (lk_64 hG) rfl rfl (fun _ => rfl) dX12_times_62 ?_
              refine am_lload hz1 dX12_times_65 0 rfl ?_
              exact am_lreturn hz dX12_times_67 h
      · replace h := h.2 c3
        refine am_lload_n hz1 dX12_times_27 3 rfl rfl ?_
        refine am_ldc2 hz1 kc_X12_269 dX12_times_28 ?_
        refine am_lif_eq (tgt := 60) hz1 dX12_times_31 dX12_times_32 (by decide) (fun c10 => ?_) (fun c10 => ?_)
        · replace h := h.1 c10
          refine am_aload_n hz1 dX12_times_60 1 rfl rfl ?_
          refine am_iconst (v := 1) hz1 dX12_times_61 (by decide) ?_
          refine am_putI hz1 fl_X12_271 (ln_64 hG) (lk_64 hG) rfl rfl (fun _ => rfl) dX12_times_62 ?_
          refine am_lload hz1 dX12_times_65 0 rfl ?_
          exact am_lreturn hz dX12_times_67 h
        · replace h := h.2 c10
          refine am_lload_n hz1 dX12_times_35 3 rfl rfl ?_
          refine am_ldc2 hz1 kc_X12_118 dX12_times_36 ?_
          refine am_lif_ne (tgt := 51) hz1 dX12_times_39 dX12_times_40 (by decide) (fun c11 => ?_) (fun c11 => ?_)
          · replace h := h.1 c11
            refine am_lload hz1 dX12_times_51 0 rfl ?_
            refine am_lload_n hz1 dX12_times_53 3 rfl rfl ?_
            obtain ⟨g12, h⟩ := h
            refine am_ldiv hz1 dX12_times_54 g12 ?_
            refine am_lload_n hz1 dX12_times_55 2 rfl rfl ?_
            refine am_lif_eq (tgt := 65) hz1 dX12_times_56 dX12_times_57 (by decide) (fun c13 => ?_) (fun c13 => ?_)
            · replace h := h.1 c13
              refine am_lload hz1 dX12_times_65 0 rfl ?_
              exact am_lreturn hz dX12_times_67 h
            · replace h := h.2 c13
              refine am_aload_n hz1 dX12_times_60 1 rfl rfl ?_
              refine am_iconst (v := 1) hz1 dX12_times_61 (by decide) ?_
              refine am_putI hz1 fl_X12_271 (ln_64 hG) (lk_64 hG) rfl rfl (fun _ => rfl) dX12_times_62 ?_
              refine am_lload hz1 dX12_times_65 0 rfl ?_
              exact am_lreturn hz dX12_times_67 h
          · replace h := h.2 c11
            refine am_lload_n hz1 dX12_times_43 2 rfl rfl ?_
            refine am_ldc2 hz1 kc_X12_269 dX12_times_44 ?_
            refine am_lif_eq (tgt := 60) hz1 dX12_times_47 dX12_times_48 (by decide) (fun c14 => ?_) (fun c14 => ?_)
            · replace h := h.1 c14
              refine am_aload_n hz1 dX12_times_60 1 rfl rfl ?_
              refine am_iconst (v := 1) hz1 dX12_times_61 (by decide) ?_
              refine am_putI hz1 fl_X12_271 (ln_64 hG) (lk_64 hG) rfl rfl (fun _ => rfl) dX12_times_62 ?_
              refine am_lload hz1 dX12_times_65 0 rfl ?_
              exact am_lreturn hz dX12_times_67 h
            · replace h := h.2 c14
              refine am_lload hz1 dX12_times_51 0 rfl ?_
              refine am_lload_n hz1 dX12_times_53 3 rfl rfl ?_
              obtain ⟨g15, h⟩ := h
              refine am_ldiv hz1 dX12_times_54 g15 ?_
              refine am_lload_n hz1 dX12_times_55 2 rfl rfl ?_
              refine am_lif_eq (tgt := 65) hz1 dX12_times_56 dX12_times_57 (by decide) (fun c16 => ?_) (fun c16 => ?_)
              · replace h := h.1 c16
                refine am_lload hz1 dX12_times_65 0 rfl ?_
                exact am_lreturn hz dX12_times_67 h
              · replace h := h.2 c16
                refine am_aload_n hz1 dX12_times_60 1 rfl rfl ?_
                refine am_iconst (v := 1) hz1 dX12_times_61 (by decide) ?_
                refine am_putI hz1 fl_X12_271 (ln_64 hG) (lk_64 hG) rfl rfl (fun _ => rfl) dX12_times_62 ?_
                refine am_lload hz1 dX12_times_65 0 rfl ?_
                exact am_lreturn hz dX12_times_67 h
    · replace h := h.2 c2
      refine am_lconst (v := 0) hz1 dX12_times_12 (by decide) ?_
      exact am_lreturn hz dX12_times_13 h
set_option maxRecDepth 100000 in
set_option maxHeartbeats 4000000 in
theorem c_X12_times {l : Launch} {D : va_G} {B : Heap} {G : amG} {I : amI} {L : amL}  (hG : Lay G)  (v1 : Int64) (v3 : Int64)  : Fx l D B yX12_times cX12_times 7 (some .long) 0 [.ref (B.size + 64), .long v1, .long v3] G I L (some (.long (v1 * v3))) (oI I (q_tl v1 v3)) L := by
  refine Mx.of (by decide) rfl rfl (fun z e1 e2 e3 hz => ?_)
  subst e1; subst e2; subst e3
  refine b_X12_times_0 hz hG ?_
  have fin : ∀ b : Bool, q_mtl v1 v3 = b → setI I 64 (upd (I 64) 15 1) = oI I true ∧ oI I (q_tl v1 v3) = oI I b := fun b h => ⟨rfl, by rw [← mtl_tl, h]⟩
  have ft : q_mtl v1 v3 = true → setI I 64 (upd (I 64) 15 1) = oI I (q_tl v1 v3) := fun h => by rw [(fin true h).2]; rfl
  have ff : q_mtl v1 v3 = false → I = oI I (q_tl v1 v3) := fun h => by rw [(fin false h).2]; rfl
  refine ⟨fun h1 => ⟨?_, rfl, ?_, rfl⟩, fun h1 => ⟨fun h2 => ⟨fun h3 => ⟨fun h4 => ⟨h2, fun h5 => ⟨rfl, rfl, ?_, rfl⟩, fun h5 => ⟨rfl, rfl, ?_, rfl⟩⟩, fun h4 => ⟨fun h5 => ⟨rfl, rfl, ?_, rfl⟩, fun h5 => ⟨h2, fun h6 => ⟨rfl, rfl, ?_, rfl⟩, fun h6 => ⟨rfl, rfl, ?_, rfl⟩⟩⟩⟩, fun h3 => ⟨fun h4 => ⟨rfl, rfl, ?_, rfl⟩, fun h4 => ⟨fun h5 => ⟨h2, fun h6 => ⟨rfl, rfl, ?_, rfl⟩, fun h6 => ⟨rfl, rfl, ?_, rfl⟩⟩, fun h5 => ⟨fun h6 => ⟨rfl, rfl, ?_, rfl⟩, fun h6 => ⟨h2, fun h7 => ⟨rfl, rfl, ?_, rfl⟩, fun h7 => ⟨rfl, rfl, ?_, rfl⟩⟩⟩⟩⟩⟩, fun h2 => ⟨?_, rfl, ?_, rfl⟩⟩⟩
  · rw [h1, Int64.zero_mul]
  · exact ff (mtl_f (Or.inl (Or.inl h1)))
  · exact ff (mtl_f (Or.inr ⟨fun q => h3 q.1, fun q => h4 q.1, h5⟩))
  · exact ft (mtl_t h1 h2 (Or.inr (Or.inr h5)))
  · exact ft (mtl_t h1 h2 (Or.inr (Or.inl ⟨h4, h5⟩)))
  · exact ff (mtl_f (Or.inr ⟨fun q => h3 q.1, fun q => h5 q.2, h6⟩))
  · exact ft (mtl_t h1 h2 (Or.inr (Or.inr h6)))
  · exact ft (mtl_t h1 h2 (Or.inl ⟨h3, h4⟩))
  · exact ff (mtl_f (Or.inr ⟨fun q => h4 q.2, fun q => h5 q.1, h6⟩))
  · exact ft (mtl_t h1 h2 (Or.inr (Or.inr h6)))
  · exact ft (mtl_t h1 h2 (Or.inr (Or.inl ⟨h5, h6⟩)))
  · exact ff (mtl_f (Or.inr ⟨fun q => h4 q.2, fun q => h6 q.2, h7⟩))
  · exact ft (mtl_t h1 h2 (Or.inr (Or.inr h7)))
  · rw [h2, Int64.mul_zero]
  · exact ff (mtl_f (Or.inl (Or.inr h2)))
set_option maxRecDepth 100000 in
set_option maxHeartbeats 4000000 in
theorem b_X12_plus_0 {z : amZ} {post : amP} {G : amG} {I : amI} {L : amL} (hz : Go z cX12_plus RX12 7 (some .long) 0 0 0 post) (hG : Lay G) {v1 : Int64} {v3 : Int64} (h : (((0 : Int64) ≤ ((v1 ^^^ (v1 + v3)) &&& (v3 ^^^ (v1 + v3)))) → post (some (.long (v1 + v3))) G I L) ∧ ((¬ (0 : Int64) ≤ ((v1 ^^^ (v1 + v3)) &&& (v3 ^^^ (v1 + v3)))) → post (some (.long (v1 + v3))) G (setI I 64 (upd (I 64) 15 (1 : Int32))) L)) : Wx z 0 0 0 [(0, .ref ((zB z).size + 64)), (1, .long v1), (3, .long v3)] [] G I L := by
  have hz1 := hz.1
  refine am_lload_n hz1 dX12_plus_0 1 rfl rfl ?_
  refine am_lload_n hz1 dX12_plus_1 2 rfl rfl ?_
  refine am_ladd hz1 dX12_plus_2 ?_
  refine am_lstore (lv' := [(5, .long (v1 + v3)), (0, .ref ((zB z).size + 64)), (1, .long v1), (3, .long v3)]) hz1 dX12_plus_3 rfl rfl ?_
  refine am_lload_n hz1 dX12_plus_5 2 rfl rfl ?_
  refine am_lload hz1 dX12_plus_6 0 rfl ?_
  refine am_lxor hz1 dX12_plus_8 ?_
  refine am_lload_n hz1 dX12_plus_9 3 rfl rfl ?_
  refine am_lload hz1 dX12_plus_10 0 rfl ?_
  refine am_lxor hz1 dX12_plus_12 ?_
  refine am_land hz1 dX12_plus_13 ?_
  refine am_lconst (v := 0) hz1 dX12_plus_14 (by decide) ?_
  refine am_lif_ge (tgt := 24) hz1 dX12_plus_15 dX12_plus_16 (by decide) (fun c1 => ?_) (fun c1 => ?_)
  · replace h := h.1 c1
    refine am_lload hz1 dX12_plus_24 0 rfl ?_
    exact am_lreturn hz dX12_plus_26 h
  · replace h := h.2 c1
    refine am_aload_n hz1 dX12_plus_19 1 rfl rfl ?_
    refine am_iconst (v := 1) hz1 dX12_plus_20 (by decide) ?_
    refine am_putI hz1 fl_X12_271 (ln_64 hG) (lk_64 hG) rfl rfl (fun _ => rfl) dX12_plus_21 ?_
    refine am_lload hz1 dX12_plus_24 0 rfl ?_
    exact am_lreturn hz dX12_plus_26 h
set_option maxRecDepth 100000 in
set_option maxHeartbeats 4000000 in
theorem c_X12_plus {l : Launch} {D : va_G} {B : Heap} {G : amG} {I : amI} {L : amL}  (hG : Lay G)  (v1 : Int64) (v3 : Int64)  : Fx l D B yX12_plus cX12_plus 7 (some .long) 0 [.ref (B.size + 64), .long v1, .long v3] G I L (some (.long (v1 + v3))) (oI I (q_ovc v1 v3)) L := by
  refine Mx.of (by decide) rfl rfl (fun z e1 e2 e3 hz => ?_)
  subst e1; subst e2; subst e3
  refine b_X12_plus_0 hz hG ?_
  refine ⟨fun h => ⟨rfl, rfl, ?_, rfl⟩, fun h => ⟨rfl, rfl, ?_, rfl⟩⟩
  · rw [q_ovc, decide_eq_false (not_not_intro h)]; rfl
  · rw [q_ovc, decide_eq_true h]; rfl
set_option maxRecDepth 100000 in
set_option maxHeartbeats 4000000 in
theorem b_X12_minus_0 {z : amZ} {post : amP} {G : amG} {I : amI} {L : amL} (hz : Go z cX12_minus RX12 7 (some .long) 0 0 0 post) (hG : Lay G) {v1 : Int64} {v3 : Int64} (h : (((0 : Int64) ≤ ((v1 ^^^ v3) &&& (v1 ^^^ (v1 - v3)))) → post (some (.long (v1 - v3))) G I L) ∧ ((¬ (0 : Int64) ≤ ((v1 ^^^ v3) &&& (v1 ^^^ (v1 - v3)))) → post (some (.long (v1 - v3))) G (setI I 64 (upd (I 64) 15 (1 : Int32))) L)) : Wx z 0 0 0 [(0, .ref ((zB z).size + 64)), (1, .long v1), (3, .long v3)] [] G I L := by
  have hz1 := hz.1
  refine am_lload_n hz1 dX12_minus_0 1 rfl rfl ?_
  refine am_lload_n hz1 dX12_minus_1 2 rfl rfl ?_
  refine am_lsub hz1 dX12_minus_2 ?_
  refine am_lstore (lv' := [(5, .long (v1 - v3)), (0, .ref ((zB z).size + 64)), (1, .long v1), (3, .long v3)]) hz1 dX12_minus_3 rfl rfl ?_
  refine am_lload_n hz1 dX12_minus_5 2 rfl rfl ?_
  refine am_lload_n hz1 dX12_minus_6 3 rfl rfl ?_
  refine am_lxor hz1 dX12_minus_7 ?_
  refine am_lload_n hz1 dX12_minus_8 2 rfl rfl ?_
  refine am_lload hz1 dX12_minus_9 0 rfl ?_
  refine am_lxor hz1 dX12_minus_11 ?_
  refine am_land hz1 dX12_minus_12 ?_
  refine am_lconst (v := 0) hz1 dX12_minus_13 (by decide) ?_
  refine am_lif_ge (tgt := 23) hz1 dX12_minus_14 dX12_minus_15 (by decide) (fun c1 => ?_) (fun c1 => ?_)
  · replace h := h.1 c1
    refine am_lload hz1 dX12_minus_23 0 rfl ?_
    exact am_lreturn hz dX12_minus_25 h
  · replace h := h.2 c1
    refine am_aload_n hz1 dX12_minus_18 1 rfl rfl ?_
    refine am_iconst (v := 1) hz1 dX12_minus_19 (by decide) ?_
    refine am_putI hz1 fl_X12_271 (ln_64 hG) (lk_64 hG) rfl rfl (fun _ => rfl) dX12_minus_20 ?_
    refine am_lload hz1 dX12_minus_23 0 rfl ?_
    exact am_lreturn hz dX12_minus_25 h
set_option maxRecDepth 100000 in
set_option maxHeartbeats 4000000 in
theorem c_X12_minus {l : Launch} {D : va_G} {B : Heap} {G : amG} {I : amI} {L : amL}  (hG : Lay G)  (v1 : Int64) (v3 : Int64)  : Fx l D B yX12_minus cX12_minus 7 (some .long) 0 [.ref (B.size + 64), .long v1, .long v3] G I L (some (.long (v1 - v3))) (oI I (q_ovd v1 v3)) L := by
  refine Mx.of (by decide) rfl rfl (fun z e1 e2 e3 hz => ?_)
  subst e1; subst e2; subst e3
  refine b_X12_minus_0 hz hG ?_
  refine ⟨fun h => ⟨rfl, rfl, ?_, rfl⟩, fun h => ⟨rfl, rfl, ?_, rfl⟩⟩
  · rw [q_ovd, decide_eq_false (not_not_intro h)]; rfl
  · rw [q_ovd, decide_eq_true h]; rfl
def m_mf (L : amL) (a b : Int32) : Int64 := if a = b then 1 else -(sumC (fun x => decide (¬ nI x = b) && m_has (m_iv L a b) (nI x)) (fun x => L 72 (16 * a.toNatClampNeg + x)) (mN L))
theorem c16 (a x : Nat) : (16 : Int32) * nI a + nI x = nI (16 * a + x) := by rw [show (16 : Int32) = nI 16 from rfl, nI_mul, nI_add]
set_option maxRecDepth 100000 in
set_option maxHeartbeats 4000000 in
theorem b_X12_moebiusFrom_0 {z : amZ} {post : amP} {G : amG} {I : amI} {L : amL} (hz : Go z cX12_moebiusFrom RX12 6 (some .long) 4 0 0 post) (hG : Lay G) {v1 : Int32} {v2 : Int32} (h : ((¬ v1 = v2) → Wx z 0 0 12 [(0, .ref ((zB z).size + 64)), (1, .int v1), (2, .int v2), (3, .long (0 : Int64)), (5, .int 0)] [] G I L) ∧ ((v1 = v2) → post (some (.long (1 : Int64))) G I L)) : Wx z 0 0 0 [(0, .ref ((zB z).size + 64)), (1, .int v1), (2, .int v2)] [] G I L := by
  have hz1 := hz.1
  refine am_iload_n hz1 dX12_moebiusFrom_0 1 rfl rfl ?_
  refine am_iload_n hz1 dX12_moebiusFrom_1 2 rfl rfl ?_
  refine am_icmp_ne (tgt := 7) hz1 dX12_moebiusFrom_2 (by decide) (fun c1 => ?_) (fun c1 => ?_)
  · replace h := h.1 c1
    refine am_lconst (v := 0) hz1 dX12_moebiusFrom_7 (by decide) ?_
    refine am_lstore_n (lv' := [(3, .long (0 : Int64)), (0, .ref ((zB z).size + 64)), (1, .int v1), (2, .int v2)]) hz1 dX12_moebiusFrom_8 rfl rfl rfl ?_
    refine am_iconst (v := 0) hz1 dX12_moebiusFrom_9 (by decide) ?_
    refine am_istore (lv' := [(5, .int 0), (3, .long (0 : Int64)), (0, .ref ((zB z).size + 64)), (1, .int v1), (2, .int v2)]) hz1 dX12_moebiusFrom_10 rfl rfl ?_
    exact am_sub (lv' := [(0, .ref ((zB z).size + 64)), (1, .int v1), (2, .int v2), (3, .long (0 : Int64)), (5, .int 0)]) [2, 3, 4, 1, 0] rfl h
  · replace h := h.2 c1
    refine am_lconst (v := 1) hz1 dX12_moebiusFrom_5 (by decide) ?_
    exact am_lreturn hz dX12_moebiusFrom_6 h
set_option maxRecDepth 100000 in
set_option maxHeartbeats 4000000 in
theorem b_X12_moebiusFrom_12 {z : amZ} {post : amP} {G : amG} {I : amI} {L : amL} (hz : Go z cX12_moebiusFrom RX12 6 (some .long) 4 0 0 post) (hG : Lay G) {v1 : Int32} {v2 : Int32} {v3 : Int64} {v5 : Int32} (h : (((m_many L) ≤ v5) → post (some (.long v3)) G I L) ∧ ((¬ (m_many L) ≤ v5) → ((v5 = v2) → Wx z 0 0 12 [(0, .ref ((zB z).size + 64)), (1, .int v1), (2, .int v2), (3, .long v3), (5, .int (v5 + 1))] [] G I L) ∧ ((¬ v5 = v2) → (mOk L) ∧ (vp_in v1 16) ∧ ((m_has (m_iv L v1 v2) v5 = false) → Wx z 0 0 12 [(0, .ref ((zB z).size + 64)), (1, .int v1), (2, .int v2), (3, .long v3), (5, .int (v5 + 1))] [] G I L) ∧ ((m_has (m_iv L v1 v2) v5 = true) → vp_in (((16 : Int32) * v1) + v5) 256 ∧ Wx z 0 0 12 [(0, .ref ((zB z).size + 64)), (1, .int v1), (2, .int v2), (3, .long (v3 - (L 72 (((16 : Int32) * v1) + v5).toNatClampNeg))), (5, .int (v5 + 1))] [] G I L)))) : Wx z 0 0 12 [(0, .ref ((zB z).size + 64)), (1, .int v1), (2, .int v2), (3, .long v3), (5, .int v5)] [] G I L := by
  have hz1 := hz.1
  refine am_iload hz1 dX12_moebiusFrom_12 4 rfl ?_
  refine am_aload_n hz1 dX12_moebiusFrom_14 0 rfl rfl ?_
  refine am_cVf hz cv_X12_78 [] [.int v5] (c_X12_many hG  ) (ln_64 hG) (lk_64 hG) rfl rfl rfl ⟨Nat.le_refl _, Nat.le_refl _⟩ (Nat.le_of_ble_eq_true rfl) dX12_moebiusFrom_15 ?_
  refine am_icmp_ge (tgt := 62) hz1 dX12_moebiusFrom_18 (by decide) (fun c1 => ?_) (fun c1 => ?_)
  · replace h := h.1 c1
    refine am_lload_n hz1 dX12_moebiusFrom_62 3 rfl rfl ?_
    exact am_lreturn hz dX12_moebiusFrom_63 h
  · replace h := h.2 c1
    refine am_iload hz1 dX12_moebiusFrom_21 4 rfl ?_
    refine am_iload_n hz1 dX12_moebiusFrom_23 2 rfl rfl ?_
    refine am_icmp_eq (tgt := 56) hz1 dX12_moebiusFrom_24 (by decide) (fun c2 => ?_) (fun c2 => ?_)
    · replace h := h.1 c2
      refine am_iinc (v := v5 + 1) (lv' := [(5, .int (v5 + 1)), (0, .ref ((zB z).size + 64)), (1, .int v1), (2, .int v2), (3, .long v3)]) hz1 dX12_moebiusFrom_56 4 rfl rfl rfl rfl ?_
      refine am_goto (tgt := 12) hz1 dX12_moebiusFrom_59 (by decide) ?_
      exact am_sub (lv' := [(0, .ref ((zB z).size + 64)), (1, .int v1), (2, .int v2), (3, .long v3), (5, .int (v5 + 1))]) [1, 2, 3, 4, 0] rfl h
    · replace h := h.2 c2
      refine am_aload_n hz1 dX12_moebiusFrom_27 0 rfl rfl ?_
      refine am_iload_n hz1 dX12_moebiusFrom_28 1 rfl rfl ?_
      refine am_iload_n hz1 dX12_moebiusFrom_29 2 rfl rfl ?_
      obtain ⟨g3, h⟩ := h
      obtain ⟨g4, h⟩ := h
      refine am_cVf hz cv_X12_107 [.int v1, .int v2] [] (c_X12_interval hG v1 v2 g3 g4) (ln_64 hG) (lk_64 hG) rfl rfl rfl ⟨Nat.le_refl _, Nat.le_refl _⟩ (Nat.le_of_ble_eq_true rfl) dX12_moebiusFrom_30 ?_
      refine am_iload hz1 dX12_moebiusFrom_33 4 rfl ?_
      refine am_cSf hz ct_X12_90 [.int (m_iv L v1 v2), .int v5] [] (c_X12_has hG (m_iv L v1 v2) v5 ) rfl rfl rfl ⟨Nat.le_refl _, Nat.le_refl _⟩ (Nat.le_of_ble_eq_true rfl) dX12_moebiusFrom_35 ?_
      refine am_ifb_eq (tgt := 56) hz1 dX12_moebiusFrom_38 (by decide) (fun c5 => ?_) (fun c5 => ?_)
      · replace h := h.1 c5
        refine am_iinc (v := v5 + 1) (lv' := [(5, .int (v5 + 1)), (0, .ref ((zB z).size + 64)), (1, .int v1), (2, .int v2), (3, .long v3)]) hz1 dX12_moebiusFrom_56 4 rfl rfl rfl rfl ?_
        refine am_goto (tgt := 12) hz1 dX12_moebiusFrom_59 (by decide) ?_
        exact am_sub (lv' := [(0, .ref ((zB z).size + 64)), (1, .int v1), (2, .int v2), (3, .long v3), (5, .int (v5 + 1))]) [1, 2, 3, 4, 0] rfl h
      · replace h := h.2 c5
        refine am_lload_n hz1 dX12_moebiusFrom_41 3 rfl rfl ?_
        refine am_aload_n hz1 dX12_moebiusFrom_42 0 rfl rfl ?_
        refine am_getR hz1 fl_X12_35 (ln_64 hG) (lk_64 hG) (lr_64_16 hG) rfl dX12_moebiusFrom_43 ?_
        refine am_bipush (v := 16) hz1 dX12_moebiusFrom_46 (by decide) ?_
        refine am_iload_n hz1 dX12_moebiusFrom_48 1 rfl rfl ?_
        refine am_imul hz1 dX12_moebiusFrom_49 ?_
        refine am_iload hz1 dX12_moebiusFrom_50 4 rfl ?_
        refine am_iadd hz1 dX12_moebiusFrom_52 ?_
        obtain ⟨g6, h⟩ := h
        refine am_lald hz1 (ln_72 hG) (lk_72 hG) (by rw [(ll_72 hG)]; exact g6) dX12_moebiusFrom_53 ?_
        refine am_lsub hz1 dX12_moebiusFrom_54 ?_
        refine am_lstore_n (lv' := [(3, .long (v3 - (L 72 (((16 : Int32) * v1) + v5).toNatClampNeg))), (0, .ref ((zB z).size + 64)), (1, .int v1), (2, .int v2), (5, .int v5)]) hz1 dX12_moebiusFrom_55 rfl rfl rfl ?_
        refine am_iinc (v := v5 + 1) (lv' := [(5, .int (v5 + 1)), (3, .long (v3 - (L 72 (((16 : Int32) * v1) + v5).toNatClampNeg))), (0, .ref ((zB z).size + 64)), (1, .int v1), (2, .int v2)]) hz1 dX12_moebiusFrom_56 4 rfl rfl rfl rfl ?_
        refine am_goto (tgt := 12) hz1 dX12_moebiusFrom_59 (by decide) ?_
        exact am_sub (lv' := [(0, .ref ((zB z).size + 64)), (1, .int v1), (2, .int v2), (3, .long (v3 - (L 72 (((16 : Int32) * v1) + v5).toNatClampNeg))), (5, .int (v5 + 1))]) [2, 3, 4, 1, 0] rfl h
set_option maxRecDepth 100000 in
set_option maxHeartbeats 4000000 in
theorem c_X12_moebiusFrom {l : Launch} {D : va_G} {B : Heap} {G : amG} {I : amI} {L : amL}  (hG : Lay G)  (v1 : Int32) (v2 : Int32) (hM : mOk L) (hi : vp_in v1 16) : Fx l D B yX12_moebiusFrom cX12_moebiusFrom 6 (some .long) 4 [.ref (B.size + 64), .int v1, .int v2] G I L (some (.long (m_mf L v1 v2))) I L := by
  refine Mx.of (by decide) rfl rfl (fun z e1 e2 e3 hz => ?_)
  subst e1; subst e2; subst e3
  refine b_X12_moebiusFrom_0 hz hG ?_
  have hO := hM
  obtain ⟨n, A, hM⟩ := hM
  have h16 := hM.2.1
  obtain ⟨a, ha, rfl⟩ := vp_in_of hi (by decide)
  have ea : (nI a).toNatClampNeg = a := cl_nI (by omega)
  refine ⟨fun h => ?_, fun h => ⟨by rw [m_mf, if_pos h], rfl, rfl, rfl⟩⟩
  have main := for_up (P := fun i => Wx z 0 0 12 [(0, .ref ((zB z).size + 64)), (1, .int (nI a)), (2, .int v2), (3, .long (-(sumC (fun x => decide (¬ nI x = v2) && m_has (m_iv L (nI a) v2) (nI x)) (fun x => L 72 (16 * a + x)) i))), (5, .int (nI i))] [] G I L) (n := n) ?_ ?_ (Nat.zero_le _)
  · rw [sumC, show -(0 : Int64) = 0 from by decide] at main
    exact main
  · exact b_X12_moebiusFrom_12 hz hG ⟨fun _ => ⟨by rw [m_mf, if_neg h, ea, hM.N], rfl, rfl, rfl⟩, fun h => absurd (mm_le hM) h⟩
  · intro i hi2 ih
    refine b_X12_moebiusFrom_12 hz hG ⟨fun h => absurd h (mm_ge hM hi2), fun _ => ⟨fun h => ?_, fun h => ⟨hO, hi, fun h2 => ?_, fun h2 => ⟨by rw [c16]; exact in_nI (by omega) (by decide), ?_⟩⟩⟩⟩
    · rw [sumC, if_neg (by rw [decide_eq_false (not_not_intro h)]; simp)] at ih
      rw [nI_1]
      exact ih
    · rw [sumC, if_neg (by rw [h2, Bool.and_false]; decide)] at ih
      rw [nI_1]
      exact ih
    · rw [sumC, if_pos (by rw [h2, decide_eq_true h]; rfl)] at ih
      rw [nI_1, c16, cl_nI (n := 16 * a + i) (by omega), ← Int64.neg_add]
      exact ih
theorem MO.mf {L : amL} {n : Nat} {A : Nat → Int32} (h : MO L n A) {a b : Nat} (ha : a < n) (hb : b < n) (hle : le A a b = true) (hr : ∀ x, x < n → le A a x = true → le A x b = true → x ≠ b → L 72 (16 * a + x) = mu n A a x) : m_mf L (nI a) (nI b) = mu n A a b := by
  have h16 := h.2.1
  have hP := h.2.2.1
  rw [m_mf, mu_is hP h16 b hb]
  by_cases e : a = b
  · subst e; rw [if_pos rfl, if_pos rfl]
  · rw [if_neg (fun q => e ((nI_eq (by omega) (by omega)).mp q)), if_neg (Ne.symm e), h.N, h.iv ha hb, cl_nI (by omega), ← sumC_S]
    congr 1
    apply sumC_c
    intro x hx
    have hc : (decide (¬ nI x = nI b) && m_has (ivS n A a b) (nI x)) = bt (upS A a &&& bn n A b) x := by
      rw [has_b (by omega), iv_b (by omega) hb (by omega), b_and, up_b, bn_bt (by omega) (by omega), decide_eq_true hx, Bool.true_and, Bool.true_and, lt_b hP (by omega) hx hb]
      rw [show decide (¬ nI x = nI b) = decide (¬ x = b) from decide_eq_decide.mpr (not_congr (nI_eq (by omega) (by omega)))]
      cases le A a x <;> cases le A x b <;> cases decide (¬ x = b) <;> rfl
    refine ⟨hc, fun g => ?_⟩
    rw [hc, b_and, up_b, bn_bt (by omega) (by omega), decide_eq_true hx, Bool.true_and, Bool.and_eq_true, lt_b hP (by omega) hx hb, Bool.and_eq_true, decide_eq_true_eq] at g
    exact hr x hx g.1 g.2.2 g.2.1
theorem MO_c {L1 L2 : amL} {n : Nat} {A : Nat → Int32} (h : MO L1 n A) (e : L2 65 = L1 65) : MO L2 n A := by
  unfold MO at h ⊢
  rw [e]
  exact h
theorem MO_72 {L : amL} {n p : Nat} {A : Nat → Int32} {f : Nat → Int64} (h : MO L n A) (hp : p ≠ 65) : MO (setL L p f) n A := MO_c h (setL_n (Ne.symm hp))
theorem msz {L : amL} {n : Nat} {A : Nat → Int32} (h : MO L n A) {a b : Nat} (ha : a < n) (hb : b < n) : m_size (m_iv L (nI a) (nI b)) = nI (rkS n A a b) := by rw [m_size, h.iv ha hb, rkS]
theorem mm_lt {L : amL} {n k : Nat} {A : Nat → Int32} (h : MO L n A) (hk : k ≤ n) : ¬ m_many L < nI k := by rw [h.many]; exact nI_nlt hk (by have := h.2.1; omega)
theorem mm_lt' {L : amL} {n : Nat} {A : Nat → Int32} (h : MO L n A) : m_many L < nI (n + 1) := by rw [h.many]; exact nI_lt (by omega) (by have := h.2.1; omega)
def muT (n : Nat) (A : Nat → Int32) (a b : Nat) : Int64 := if le A a b = true then mu n A a b else 0
set_option maxRecDepth 100000 in
set_option maxHeartbeats 4000000 in
theorem b_X12_moebiusMade_0 {z : amZ} {post : amP} {G : amG} {I : amI} {L : amL} (hz : Go z cX12_moebiusMade RX12 4 none 5 0 0 post) (hG : Lay G)  (h : Wx z 0 0 6 [(0, .ref ((zB z).size + 64)), (1, .int 1)] [] G I (setL L 72 (wr (L 72) 0 256 (fun _ => 0)))) : Wx z 0 0 0 [(0, .ref ((zB z).size + 64))] [] G I L := by
  have hz1 := hz.1
  refine am_aload_n hz1 dX12_moebiusMade_0 0 rfl rfl ?_
  refine am_cVf hz cv_X12_276 [] [] (c_X12_empties hG  ) (ln_64 hG) (lk_64 hG) rfl rfl rfl ⟨Nat.le_refl _, Nat.le_refl _⟩ (Nat.le_of_ble_eq_true rfl) dX12_moebiusMade_1 ?_
  refine am_iconst (v := 1) hz1 dX12_moebiusMade_4 (by decide) ?_
  refine am_istore_n (lv' := [(1, .int 1), (0, .ref ((zB z).size + 64))]) hz1 dX12_moebiusMade_5 rfl rfl rfl ?_
  exact am_sub (lv' := [(0, .ref ((zB z).size + 64)), (1, .int 1)]) [1, 0] rfl h
set_option maxRecDepth 100000 in
set_option maxHeartbeats 4000000 in
theorem b_X12_moebiusMade_6 {z : amZ} {post : amP} {G : amG} {I : amI} {L : amL} (hz : Go z cX12_moebiusMade RX12 4 none 5 0 0 post) (hG : Lay G) {v1 : Int32} (h : (((m_many L) < v1) → post none G I L) ∧ ((¬ (m_many L) < v1) → Wx z 0 0 16 [(0, .ref ((zB z).size + 64)), (1, .int v1), (2, .int 0)] [] G I L)) : Wx z 0 0 6 [(0, .ref ((zB z).size + 64)), (1, .int v1)] [] G I L := by
  have hz1 := hz.1
  refine am_iload_n hz1 dX12_moebiusMade_6 1 rfl rfl ?_
  refine am_aload_n hz1 dX12_moebiusMade_7 0 rfl rfl ?_
  refine am_cVf hz cv_X12_78 [] [.int v1] (c_X12_many hG  ) (ln_64 hG) (lk_64 hG) rfl rfl rfl ⟨Nat.le_refl _, Nat.le_refl _⟩ (Nat.le_of_ble_eq_true rfl) dX12_moebiusMade_8 ?_
  refine am_icmp_gt (tgt := 91) hz1 dX12_moebiusMade_11 (by decide) (fun c1 => ?_) (fun c1 => ?_)
  · replace h := h.1 c1
    exact am_return hz dX12_moebiusMade_91 h
  · replace h := h.2 c1
    refine am_iconst (v := 0) hz1 dX12_moebiusMade_14 (by decide) ?_
    refine am_istore_n (lv' := [(2, .int 0), (0, .ref ((zB z).size + 64)), (1, .int v1)]) hz1 dX12_moebiusMade_15 rfl rfl rfl ?_
    exact am_sub (lv' := [(0, .ref ((zB z).size + 64)), (1, .int v1), (2, .int 0)]) [1, 2, 0] rfl h
set_option maxRecDepth 100000 in
set_option maxHeartbeats 4000000 in
theorem b_X12_moebiusMade_16 {z : amZ} {post : amP} {G : amG} {I : amI} {L : amL} (hz : Go z cX12_moebiusMade RX12 4 none 5 0 0 post) (hG : Lay G) {v1 : Int32} {v2 : Int32} (h : (((m_many L) ≤ v2) → Wx z 0 0 6 [(0, .ref ((zB z).size + 64)), (1, .int (v1 + 1))] [] G I L) ∧ ((¬ (m_many L) ≤ v2) → Wx z 0 0 26 [(0, .ref ((zB z).size + 64)), (1, .int v1), (2, .int v2), (3, .int 0)] [] G I L)) : Wx z 0 0 16 [(0, .ref ((zB z).size + 64)), (1, .int v1), (2, .int v2)] [] G I L := by
  have hz1 := hz.1
  refine am_iload_n hz1 dX12_moebiusMade_16 2 rfl rfl ?_
  refine am_aload_n hz1 dX12_moebiusMade_17 0 rfl rfl ?_
  refine am_cVf hz cv_X12_78 [] [.int v2] (c_X12_many hG  ) (ln_64 hG) (lk_64 hG) rfl rfl rfl ⟨Nat.le_refl _, Nat.le_refl _⟩ (Nat.le_of_ble_eq_true rfl) dX12_moebiusMade_18 ?_
  refine am_icmp_ge (tgt := 85) hz1 dX12_moebiusMade_21 (by decide) (fun c1 => ?_) (fun c1 => ?_)
  · replace h := h.1 c1
    refine am_iinc (v := v1 + 1) (lv' := [(1, .int (v1 + 1)), (0, .ref ((zB z).size + 64)), (2, .int v2)]) hz1 dX12_moebiusMade_85 1 rfl rfl rfl rfl ?_
    refine am_goto (tgt := 6) hz1 dX12_moebiusMade_88 (by decide) ?_
    exact am_sub (lv' := [(0, .ref ((zB z).size + 64)), (1, .int (v1 + 1))]) [1, 0] rfl h
  · replace h := h.2 c1
    refine am_iconst (v := 0) hz1 dX12_moebiusMade_24 (by decide) ?_
    refine am_istore_n (lv' := [(3, .int 0), (0, .ref ((zB z).size + 64)), (1, .int v1), (2, .int v2)]) hz1 dX12_moebiusMade_25 rfl rfl rfl ?_
    exact am_sub (lv' := [(0, .ref ((zB z).size + 64)), (1, .int v1), (2, .int v2), (3, .int 0)]) [1, 2, 3, 0] rfl h
set_option maxRecDepth 100000 in
set_option maxHeartbeats 4000000 in
theorem b_X12_moebiusMade_26 {z : amZ} {post : amP} {G : amG} {I : amI} {L : amL} (hz : Go z cX12_moebiusMade RX12 4 none 5 0 0 post) (hG : Lay G) {v1 : Int32} {v2 : Int32} {v3 : Int32} (h : (((m_many L) ≤ v3) → Wx z 0 0 16 [(0, .ref ((zB z).size + 64)), (1, .int v1), (2, .int (v2 + 1))] [] G I L) ∧ ((¬ (m_many L) ≤ v3) → (vp_in v2 16) ∧ ((m_am L v2 v3 = false) → Wx z 0 0 26 [(0, .ref ((zB z).size + 64)), (1, .int v1), (2, .int v2), (3, .int (v3 + 1))] [] G I L) ∧ ((m_am L v2 v3 = true) → (mOk L) ∧ (vp_in v2 16) ∧ (s16 (m_iv L v2 v3)) ∧ ((¬ (m_size (m_iv L v2 v3)) = v1) → Wx z 0 0 26 [(0, .ref ((zB z).size + 64)), (1, .int v1), (2, .int v2), (3, .int (v3 + 1))] [] G I L) ∧ (((m_size (m_iv L v2 v3)) = v1) → (mOk L) ∧ (vp_in v2 16) ∧ vp_in (((16 : Int32) * v2) + v3) 256 ∧ Wx z 0 0 26 [(0, .ref ((zB z).size + 64)), (1, .int v1), (2, .int v2), (3, .int (v3 + 1))] [] G I (setL L 72 (vp_updL (L 72) (((16 : Int32) * v2) + v3).toNatClampNeg (m_mf L v2 v3))))))) : Wx z 0 0 26 [(0, .ref ((zB z).size + 64)), (1, .int v1), (2, .int v2), (3, .int v3)] [] G I L := by
  have hz1 := hz.1
  refine am_iload_n hz1 dX12_moebiusMade_26 3 rfl rfl ?_
  refine am_aload_n hz1 dX12_moebiusMade_27 0 rfl rfl ?_
  refine am_cVf hz cv_X12_78 [] [.int v3] (c_X12_many hG  ) (ln_64 hG) (lk_64 hG) rfl rfl rfl ⟨Nat.le_refl _, Nat.le_refl _⟩ (Nat.le_of_ble_eq_true rfl) dX12_moebiusMade_28 ?_
  refine am_icmp_ge (tgt := 79) hz1 dX12_moebiusMade_31 (by decide) (fun c1 => ?_) (fun c1 => ?_)
  · replace h := h.1 c1
    refine am_iinc (v := v2 + 1) (lv' := [(2, .int (v2 + 1)), (0, .ref ((zB z).size + 64)), (1, .int v1), (3, .int v3)]) hz1 dX12_moebiusMade_79 2 rfl rfl rfl rfl ?_
    refine am_goto (tgt := 16) hz1 dX12_moebiusMade_82 (by decide) ?_
    exact am_sub (lv' := [(0, .ref ((zB z).size + 64)), (1, .int v1), (2, .int (v2 + 1))]) [1, 2, 0] rfl h
  · replace h := h.2 c1
    refine am_aload_n hz1 dX12_moebiusMade_34 0 rfl rfl ?_
    refine am_iload_n hz1 dX12_moebiusMade_35 2 rfl rfl ?_
    refine am_iload_n hz1 dX12_moebiusMade_36 3 rfl rfl ?_
    obtain ⟨g2, h⟩ := h
    refine am_cVf hz cv_X12_94 [.int v2, .int v3] [] (c_X12_isAtMost hG v2 v3 g2) (ln_64 hG) (lk_64 hG) rfl rfl rfl ⟨Nat.le_refl _, Nat.le_refl _⟩ (Nat.le_of_ble_eq_true rfl) dX12_moebiusMade_37 ?_
    refine am_ifb_eq (tgt := 73) hz1 dX12_moebiusMade_40 (by decide) (fun c3 => ?_) (fun c3 => ?_)
    · replace h := h.1 c3
      refine am_iinc (v := v3 + 1) (lv' := [(3, .int (v3 + 1)), (0, .ref ((zB z).size + 64)), (1, .int v1), (2, .int v2)]) hz1 dX12_moebiusMade_73 3 rfl rfl rfl rfl ?_
      refine am_goto (tgt := 26) hz1 dX12_moebiusMade_76 (by decide) ?_
      exact am_sub (lv' := [(0, .ref ((zB z).size + 64)), (1, .int v1), (2, .int v2), (3, .int (v3 + 1))]) [1, 2, 3, 0] rfl h
    · replace h := h.2 c3
      refine am_aload_n hz1 dX12_moebiusMade_43 0 rfl rfl ?_
      refine am_iload_n hz1 dX12_moebiusMade_44 2 rfl rfl ?_
      refine am_iload_n hz1 dX12_moebiusMade_45 3 rfl rfl ?_
      obtain ⟨g4, h⟩ := h
      obtain ⟨g5, h⟩ := h
      refine am_cVf hz cv_X12_107 [.int v2, .int v3] [] (c_X12_interval hG v2 v3 g4 g5) (ln_64 hG) (lk_64 hG) rfl rfl rfl ⟨Nat.le_refl _, Nat.le_refl _⟩ (Nat.le_of_ble_eq_true rfl) dX12_moebiusMade_46 ?_
      obtain ⟨g6, h⟩ := h
      refine am_cSf hz ct_X12_111 [.int (m_iv L v2 v3)] [] (c_X12_size hG (m_iv L v2 v3) g6) rfl rfl rfl ⟨Nat.le_refl _, Nat.le_refl _⟩ (Nat.le_of_ble_eq_true rfl) dX12_moebiusMade_49 ?_
      refine am_iload_n hz1 dX12_moebiusMade_52 1 rfl rfl ?_
      refine am_icmp_ne (tgt := 73) hz1 dX12_moebiusMade_53 (by decide) (fun c7 => ?_) (fun c7 => ?_)
      · replace h := h.1 c7
        refine am_iinc (v := v3 + 1) (lv' := [(3, .int (v3 + 1)), (0, .ref ((zB z).size + 64)), (1, .int v1), (2, .int v2)]) hz1 dX12_moebiusMade_73 3 rfl rfl rfl rfl ?_
        refine am_goto (tgt := 26) hz1 dX12_moebiusMade_76 (by decide) ?_
        exact am_sub (lv' := [(0, .ref ((zB z).size + 64)), (1, .int v1), (2, .int v2), (3, .int (v3 + 1))]) [1, 2, 3, 0] rfl h
      · replace h := h.2 c7
        refine am_aload_n hz1 dX12_moebiusMade_56 0 rfl rfl ?_
        refine am_getR hz1 fl_X12_35 (ln_64 hG) (lk_64 hG) (lr_64_16 hG) rfl dX12_moebiusMade_57 ?_
        refine am_bipush (v := 16) hz1 dX12_moebiusMade_60 (by decide) ?_
        refine am_iload_n hz1 dX12_moebiusMade_62 2 rfl rfl ?_
        refine am_imul hz1 dX12_moebiusMade_63 ?_
        refine am_iload_n hz1 dX12_moebiusMade_64 3 rfl rfl ?_
        refine am_iadd hz1 dX12_moebiusMade_65 ?_
        refine am_aload_n hz1 dX12_moebiusMade_66 0 rfl rfl ?_
        refine am_iload_n hz1 dX12_moebiusMade_67 2 rfl rfl ?_
        refine am_iload_n hz1 dX12_moebiusMade_68 3 rfl rfl ?_
        obtain ⟨g8, h⟩ := h
        obtain ⟨g9, h⟩ := h
        refine am_cVf hz cv_X12_279 [.int v2, .int v3] [.int (((16 : Int32) * v2) + v3), .ref ((zB z).size + 72)] (c_X12_moebiusFrom hG v2 v3 g8 g9) (ln_64 hG) (lk_64 hG) rfl rfl rfl ⟨Nat.le_refl _, Nat.le_refl _⟩ (Nat.le_of_ble_eq_true rfl) dX12_moebiusMade_69 ?_
        obtain ⟨g10, h⟩ := h
        refine am_last hz1 (ln_72 hG) (lk_72 hG) (by rw [(ll_72 hG)]; exact g10) dX12_moebiusMade_72 ?_
        refine am_iinc (v := v3 + 1) (lv' := [(3, .int (v3 + 1)), (0, .ref ((zB z).size + 64)), (1, .int v1), (2, .int v2)]) hz1 dX12_moebiusMade_73 3 rfl rfl rfl rfl ?_
        refine am_goto (tgt := 26) hz1 dX12_moebiusMade_76 (by decide) ?_
        exact am_sub (lv' := [(0, .ref ((zB z).size + 64)), (1, .int v1), (2, .int v2), (3, .int (v3 + 1))]) [1, 2, 3, 0] rfl h
set_option maxRecDepth 100000 in
set_option maxHeartbeats 4000000 in
theorem c_X12_moebiusMade {l : Launch} {D : va_G} {B : Heap} {G : amG} {I : amI} {L : amL}  (hG : Lay G)   {n : Nat} {A : Nat → Int32} (hM : MO L n A) : Mx l D B yX12_moebiusMade cX12_moebiusMade 4 none 5 0 0 [.ref (B.size + 64)] G I L (fun r G1 I1 L1 => r = none ∧ G1 = G ∧ I1 = I ∧ ∃ f : Nat → Int64, L1 = setL L 72 f ∧ KV (muT n A) n f) := by
  refine Mx.of (by decide) rfl rfl (fun z e1 e2 e3 hz => ?_)
  subst e1; subst e2; subst e3
  refine b_X12_moebiusMade_0 hz hG ?_
  have h16 := hM.2.1
  have h1 := hM.1
  have hP := hM.2.2.1
  have hM' : ∀ f, MO (setL L 72 f) n A := fun f => MO_72 hM (by decide)
  have outer : ∀ f, RK n (le A) (rkS n A) (mu n A) (fun _ _ => false) (1 + 0) 0 0 f false → Wx z 0 0 6 [(0, .ref ((zB z).size + 64)), (1, .int (nI (1 + 0)))] [] G I (setL L 72 f) := by
    refine for_up (P := fun k => ∀ f, RK n (le A) (rkS n A) (mu n A) (fun _ _ => false) (1 + k) 0 0 f false → Wx z 0 0 6 [(0, .ref ((zB z).size + 64)), (1, .int (nI (1 + k)))] [] G I (setL L 72 f)) (n := n) ?_ ?_ (Nat.zero_le _)
    · intro f hf
      rw [Nat.add_comm 1 n] at hf ⊢
      exact b_X12_moebiusMade_6 hz hG ⟨fun _ => ⟨rfl, rfl, rfl, f, rfl, (RK_end hf (fun x y hx hy _ => rk_le h16 hy)).1⟩, fun h => absurd (mm_lt' (hM' f)) h⟩
    · intro k hk ih f hf
      refine b_X12_moebiusMade_6 hz hG ⟨fun h => absurd h (mm_lt (hM' f) (by omega)), fun _ => ?_⟩
      have rows : ∀ f, RK n (le A) (rkS n A) (mu n A) (fun _ _ => false) (1 + k) 0 0 f false → Wx z 0 0 16 [(0, .ref ((zB z).size + 64)), (1, .int (nI (1 + k))), (2, .int (nI 0))] [] G I (setL L 72 f) := by
        refine for_up (P := fun a => ∀ f, RK n (le A) (rkS n A) (mu n A) (fun _ _ => false) (1 + k) a 0 f false → Wx z 0 0 16 [(0, .ref ((zB z).size + 64)), (1, .int (nI (1 + k))), (2, .int (nI a))] [] G I (setL L 72 f)) (n := n) ?_ ?_ (Nat.zero_le _)
        · intro f hf
          refine b_X12_moebiusMade_16 hz hG ⟨fun _ => ?_, fun h => absurd (mm_le (hM' f)) h⟩
          rw [nI_1]
          exact ih f (RK_blk hf)
        · intro a ha ah f hf
          refine b_X12_moebiusMade_16 hz hG ⟨fun h => absurd h (mm_ge (hM' f) ha), fun _ => ?_⟩
          have cols : ∀ f, RK n (le A) (rkS n A) (mu n A) (fun _ _ => false) (1 + k) a 0 f false → Wx z 0 0 26 [(0, .ref ((zB z).size + 64)), (1, .int (nI (1 + k))), (2, .int (nI a)), (3, .int (nI 0))] [] G I (setL L 72 f) := by
            refine for_up (P := fun b => ∀ f, RK n (le A) (rkS n A) (mu n A) (fun _ _ => false) (1 + k) a b f false → Wx z 0 0 26 [(0, .ref ((zB z).size + 64)), (1, .int (nI (1 + k))), (2, .int (nI a)), (3, .int (nI b))] [] G I (setL L 72 f)) (n := n) ?_ ?_ (Nat.zero_le _)
            · intro f hf
              refine b_X12_moebiusMade_26 hz hG ⟨fun _ => ?_, fun h => absurd (mm_le (hM' f)) h⟩
              rw [nI_1]
              exact ah f (RK_row hf)
            · intro b hb bh f hf
              have hO := hM' f
              refine b_X12_moebiusMade_26 hz hG ⟨fun h => absurd h (mm_ge hO hb), fun _ => ⟨in16 h16 ha, fun h => ?_, fun h => ⟨⟨n, A, hO⟩, in16 h16 ha, m_iv_16 ⟨n, A, hO⟩, fun h2 => ?_, fun h2 => ⟨⟨n, A, hO⟩, in16 h16 ha, by rw [c16]; exact in_nI (by omega) (by decide), ?_⟩⟩⟩⟩
              · rw [hO.am ha (by omega)] at h
                rw [nI_1]
                exact bh f (RK_n hf (fun q => by rw [h] at q; cases q))
              · rw [msz hO ha hb] at h2
                rw [nI_1]
                exact bh f (RK_n hf (fun _ e => h2 (by rw [e])))
              · rw [hO.am ha (by omega)] at h
                rw [msz hO ha hb] at h2
                have hr : rkS n A a b = 1 + k := (nI_eq (by have := rk_le (A := A) (a := a) h16 hb; omega) (by omega)).mp h2
                rw [nI_1, c16, cl_nI (n := 16 * a + b) (by omega), setL_ss, setL_s]
                refine bh _ (RK_s h16 hf ha hb h hr ?_)
                refine hO.mf ha hb h (fun x hx g1 g2 g3 => ?_)
                rw [setL_s]
                exact RK_get h16 hf ha hx g1 (by have := rk_up hP h16 ha hx hb g1 g2 g3; omega)
          exact cols f hf
      exact rows f hf
  exact outer _ (RK_0 (fun x y hx hy h => rk_1 h16 hx hy h))
def m_kv (L : amL) (k a b : Int32) : Int64 := if k = 1 then (if a = b then 1 else 0) else if k = 2 then 1 else if k = 4 then (if a = b then 0 else 1) else if k = 5 then (if m_cov L a b = true then 1 else 0) else if k = 6 then (m_size (m_iv L a b)).toInt64 else 0
set_option maxRecDepth 100000 in
set_option maxHeartbeats 4000000 in
theorem b_X12_kindValue_0 {z : amZ} {post : amP} {G : amG} {I : amI} {L : amL} (hz : Go z cX12_kindValue RX12 4 (some .long) 5 0 0 post) (hG : Lay G) {v1 : Int32} {v2 : Int32} {v3 : Int32} (h : (v1 = 1 → ((¬ v2 = v3) → post (some (.long (0 : Int64))) G I L) ∧ ((v2 = v3) → post (some (.long (1 : Int64))) G I L)) ∧ (v1 = 2 → post (some (.long (1 : Int64))) G I L) ∧ (v1 = 3 → post (some (.long (0 : Int64))) G I L) ∧ (v1 = 4 → ((¬ v2 = v3) → post (some (.long (1 : Int64))) G I L) ∧ ((v2 = v3) → post (some (.long (0 : Int64))) G I L)) ∧ (v1 = 5 → (mOk L) ∧ (vp_in v2 16) ∧ ((m_cov L v2 v3 = false) → post (some (.long (0 : Int64))) G I L) ∧ ((m_cov L v2 v3 = true) → post (some (.long (1 : Int64))) G I L)) ∧ (v1 = 6 → (mOk L) ∧ (vp_in v2 16) ∧ (s16 (m_iv L v2 v3)) ∧ post (some (.long ((m_size (m_iv L v2 v3)).toInt64))) G I L) ∧ ((v1 < 1 ∨ 6 < v1) → post (some (.long (0 : Int64))) G I L)) : Wx z 0 0 0 [(0, .ref ((zB z).size + 64)), (1, .int v1), (2, .int v2), (3, .int v3)] [] G I L := by
  have hz1 := hz.1
  refine am_iload_n hz1 dX12_kindValue_0 1 rfl rfl ?_
  by_cases c1_0 : v1 = 1
  · replace h := h.1 c1_0
    refine am_tabI (off := 39) (tgt := 40) hz1 1 dX12_kindValue_1 c1_0 (by decide) (by decide) rfl (by decide) ?_
    refine am_iload_n hz1 dX12_kindValue_40 2 rfl rfl ?_
    refine am_iload_n hz1 dX12_kindValue_41 3 rfl rfl ?_
    refine am_icmp_ne (tgt := 49) hz1 dX12_kindValue_42 (by decide) (fun c2 => ?_) (fun c2 => ?_)
    · replace h := h.1 c2
      refine am_lconst (v := 0) hz1 dX12_kindValue_49 (by decide) ?_
      exact am_lreturn hz dX12_kindValue_50 h
    · replace h := h.2 c2
      refine am_lconst (v := 1) hz1 dX12_kindValue_45 (by decide) ?_
      refine am_goto (tgt := 50) hz1 dX12_kindValue_46 (by decide) ?_
      exact am_lreturn hz dX12_kindValue_50 h
  by_cases c1_1 : v1 = 2
  · replace h := h.2.1 c1_1
    refine am_tabI (off := 50) (tgt := 51) hz1 2 dX12_kindValue_1 c1_1 (by decide) (by decide) rfl (by decide) ?_
    refine am_lconst (v := 1) hz1 dX12_kindValue_51 (by decide) ?_
    exact am_lreturn hz dX12_kindValue_52 h
  by_cases c1_2 : v1 = 3
  · replace h := h.2.2.1 c1_2
    refine am_tabI (off := 89) (tgt := 90) hz1 3 dX12_kindValue_1 c1_2 (by decide) (by decide) rfl (by decide) ?_
    refine am_lconst (v := 0) hz1 dX12_kindValue_90 (by decide) ?_
    exact am_lreturn hz dX12_kindValue_91 h
  by_cases c1_3 : v1 = 4
  · replace h := h.2.2.2.1 c1_3
    refine am_tabI (off := 52) (tgt := 53) hz1 4 dX12_kindValue_1 c1_3 (by decide) (by decide) rfl (by decide) ?_
    refine am_iload_n hz1 dX12_kindValue_53 2 rfl rfl ?_
    refine am_iload_n hz1 dX12_kindValue_54 3 rfl rfl ?_
    refine am_icmp_ne (tgt := 62) hz1 dX12_kindValue_55 (by decide) (fun c3 => ?_) (fun c3 => ?_)
    · replace h := h.1 c3
      refine am_lconst (v := 1) hz1 dX12_kindValue_62 (by decide) ?_
      exact am_lreturn hz dX12_kindValue_63 h
    · replace h := h.2 c3
      refine am_lconst (v := 0) hz1 dX12_kindValue_58 (by decide) ?_
      refine am_goto (tgt := 63) hz1 dX12_kindValue_59 (by decide) ?_
      exact am_lreturn hz dX12_kindValue_63 h
  by_cases c1_4 : v1 = 5
  · replace h := h.2.2.2.2.1 c1_4
    refine am_tabI (off := 63) (tgt := 64) hz1 5 dX12_kindValue_1 c1_4 (by decide) (by decide) rfl (by decide) ?_
    refine am_aload_n hz1 dX12_kindValue_64 0 rfl rfl ?_
    refine am_iload_n hz1 dX12_kindValue_65 2 rfl rfl ?_
    refine am_iload_n hz1 dX12_kindValue_66 3 rfl rfl ?_
    obtain ⟨g4, h⟩ := h
    obtain ⟨g5, h⟩ := h
    refine am_cVf hz cv_X12_239 [.int v2, .int v3] [] (c_X12_isCover hG v2 v3 g4 g5) (ln_64 hG) (lk_64 hG) rfl rfl rfl ⟨Nat.le_refl _, Nat.le_refl _⟩ (Nat.le_of_ble_eq_true rfl) dX12_kindValue_67 ?_
    refine am_ifb_eq (tgt := 77) hz1 dX12_kindValue_70 (by decide) (fun c6 => ?_) (fun c6 => ?_)
    · replace h := h.1 c6
      refine am_lconst (v := 0) hz1 dX12_kindValue_77 (by decide) ?_
      exact am_lreturn hz dX12_kindValue_78 h
    · replace h := h.2 c6
      refine am_lconst (v := 1) hz1 dX12_kindValue_73 (by decide) ?_
      refine am_goto (tgt := 78) hz1 dX12_kindValue_74 (by decide) ?_
      exact am_lreturn hz dX12_kindValue_78 h
  by_cases c1_5 : v1 = 6
  · replace h := h.2.2.2.2.2.1 c1_5
    refine am_tabI (off := 78) (tgt := 79) hz1 6 dX12_kindValue_1 c1_5 (by decide) (by decide) rfl (by decide) ?_
    refine am_aload_n hz1 dX12_kindValue_79 0 rfl rfl ?_
    refine am_iload_n hz1 dX12_kindValue_80 2 rfl rfl ?_
    refine am_iload_n hz1 dX12_kindValue_81 3 rfl rfl ?_
    obtain ⟨g7, h⟩ := h
    obtain ⟨g8, h⟩ := h
    refine am_cVf hz cv_X12_107 [.int v2, .int v3] [] (c_X12_interval hG v2 v3 g7 g8) (ln_64 hG) (lk_64 hG) rfl rfl rfl ⟨Nat.le_refl _, Nat.le_refl _⟩ (Nat.le_of_ble_eq_true rfl) dX12_kindValue_82 ?_
    obtain ⟨g9, h⟩ := h
    refine am_cSf hz ct_X12_111 [.int (m_iv L v2 v3)] [] (c_X12_size hG (m_iv L v2 v3) g9) rfl rfl rfl ⟨Nat.le_refl _, Nat.le_refl _⟩ (Nat.le_of_ble_eq_true rfl) dX12_kindValue_85 ?_
    refine am_i2l hz1 dX12_kindValue_88 ?_
    exact am_lreturn hz dX12_kindValue_89 h
  have c1 : v1 < 1 ∨ 6 < v1 := tabx_6_1 c1_0 c1_1 c1_2 c1_3 c1_4 c1_5
  replace h := h.2.2.2.2.2.2 c1
  refine am_tabO (tgt := 90) hz1 dX12_kindValue_1 (c1.elim (fun e => Or.inl (tab_lt 1 rfl e)) (fun e => Or.inr (tab_gt 6 rfl e))) (by decide) ?_
  refine am_lconst (v := 0) hz1 dX12_kindValue_90 (by decide) ?_
  exact am_lreturn hz dX12_kindValue_91 h
set_option maxRecDepth 100000 in
set_option maxHeartbeats 4000000 in
theorem c_X12_kindValue {l : Launch} {D : va_G} {B : Heap} {G : amG} {I : amI} {L : amL}  (hG : Lay G)  (v1 : Int32) (v2 : Int32) (v3 : Int32) (hM : mOk L) (hi : vp_in v2 16) : Fx l D B yX12_kindValue cX12_kindValue 4 (some .long) 5 [.ref (B.size + 64), .int v1, .int v2, .int v3] G I L (some (.long (m_kv L v1 v2 v3))) I L := by
  refine Mx.of (by decide) rfl rfl (fun z e1 e2 e3 hz => ?_)
  subst e1; subst e2; subst e3
  refine b_X12_kindValue_0 hz hG ?_
  refine ⟨fun h => ⟨fun h2 => ⟨?_, rfl, rfl, rfl⟩, fun h2 => ⟨?_, rfl, rfl, rfl⟩⟩, fun h => ⟨?_, rfl, rfl, rfl⟩, fun h => ⟨?_, rfl, rfl, rfl⟩, fun h => ⟨fun h2 => ⟨?_, rfl, rfl, rfl⟩, fun h2 => ⟨?_, rfl, rfl, rfl⟩⟩, fun h => ⟨hM, hi, fun h2 => ⟨?_, rfl, rfl, rfl⟩, fun h2 => ⟨?_, rfl, rfl, rfl⟩⟩, fun h => ⟨hM, hi, m_iv_16 hM, ?_, rfl, rfl, rfl⟩, fun h => ⟨?_, rfl, rfl, rfl⟩⟩
  · subst h; rw [m_kv, if_pos rfl, if_neg h2]
  · subst h; rw [m_kv, if_pos rfl, if_pos h2]
  · subst h; rw [m_kv, if_neg (by decide), if_pos rfl]
  · subst h; rw [m_kv, if_neg (by decide), if_neg (by decide), if_neg (by decide), if_neg (by decide), if_neg (by decide)]
  · subst h; rw [m_kv, if_neg (by decide), if_neg (by decide), if_pos rfl, if_neg h2]
  · subst h; rw [m_kv, if_neg (by decide), if_neg (by decide), if_pos rfl, if_pos h2]
  · subst h; rw [m_kv, if_neg (by decide), if_neg (by decide), if_neg (by decide), if_pos rfl, if_neg (by rw [h2]; decide)]
  · subst h; rw [m_kv, if_neg (by decide), if_neg (by decide), if_neg (by decide), if_pos rfl, if_pos h2]
  · subst h; rw [m_kv, if_neg (by decide), if_neg (by decide), if_neg (by decide), if_neg (by decide), if_pos rfl]
  · have e : ∀ k : Int32, 1 ≤ k ∧ k ≤ 6 → v1 ≠ k := by
      rintro k ⟨k1, k2⟩ rfl
      rcases h with h | h
      · rw [Int32.lt_iff_toInt_lt] at h; rw [Int32.le_iff_toInt_le] at k1; omega
      · rw [Int32.lt_iff_toInt_lt] at h; rw [Int32.le_iff_toInt_le] at k2; omega
    rw [m_kv, if_neg (e 1 (by decide)), if_neg (e 2 (by decide)), if_neg (e 4 (by decide)), if_neg (e 5 (by decide)), if_neg (e 6 (by decide))]
theorem MO.kv {L L' : amL} {k a b : Int32} (e : L' 65 = L 65) : m_kv L' k a b = m_kv L k a b := by
  have h1 : m_many L' = m_many L := by unfold m_many; rw [e]
  have h2 : ∀ x, m_up L' x = m_up L x := fun x => by unfold m_up; rw [e]
  have h3 : ∀ x y, m_am L' x y = m_am L x y := fun x y => by unfold m_am; rw [h2]
  have h4 : ∀ y, m_dn L' y = m_dn L y := fun y => by unfold m_dn mN; rw [h1]; exact mkset_cong (fun i _ => h3 _ _)
  have h5 : ∀ x y, m_iv L' x y = m_iv L x y := fun x y => by unfold m_iv; rw [h3, h2, h4]
  unfold m_kv m_cov m_bl
  rw [h3, h5]
/-- of a kind, all of them -/
def kdM (L : amL) (k : Int32) (n : Nat) (A : Nat → Int32) (a b : Nat) : Int64 := if le A a b = true then (if k = 3 then mu n A a b else m_kv L k (nI a) (nI b)) else 0
set_option maxRecDepth 100000 in
set_option maxHeartbeats 4000000 in
theorem b_X12_laysKind_0 {z : amZ} {post : amP} {G : amG} {I : amI} {L : amL} (hz : Go z cX12_laysKind RX12 4 none 6 0 0 post) (hG : Lay G) {v1 : Int32} (h : ((¬ v1 = (3 : Int32)) → Wx z 0 0 16 [(0, .ref ((zB z).size + 64)), (1, .int v1), (2, .int 0)] [] G I (setL L 72 (wr (L 72) 0 256 (fun _ => 0)))) ∧ ((v1 = (3 : Int32)) → ∃ (dq2 : Nat) (postq2 : amP), Nat.ble (dq2 + 1) 6 = true ∧ Mx (zL z) (zD z) (zB z) yX12_moebiusMade cX12_moebiusMade 4 none dq2 0 0 [.ref ((zB z).size + 64)] G I L postq2 ∧ ∀ (roq2 : Option Value) (Gq2 : amG) (Iq2 : amI) (Lq2 : amL), postq2 roq2 Gq2 Iq2 Lq2 → roq2 = none ∧ Lay Gq2 ∧ post none Gq2 Iq2 Lq2)) : Wx z 0 0 0 [(0, .ref ((zB z).size + 64)), (1, .int v1)] [] G I L := by
  have hz1 := hz.1
  refine am_iload_n hz1 dX12_laysKind_0 1 rfl rfl ?_
  refine am_iconst (v := 3) hz1 dX12_laysKind_1 (by decide) ?_
  refine am_icmp_ne (tgt := 10) hz1 dX12_laysKind_2 (by decide) (fun c1 => ?_) (fun c1 => ?_)
  · replace h := h.1 c1
    refine am_aload_n hz1 dX12_laysKind_10 0 rfl rfl ?_
    refine am_cVf hz cv_X12_276 [] [] (c_X12_empties hG  ) (ln_64 hG) (lk_64 hG) rfl rfl rfl ⟨Nat.le_refl _, Nat.le_refl _⟩ (Nat.le_of_ble_eq_true rfl) dX12_laysKind_11 ?_
    refine am_iconst (v := 0) hz1 dX12_laysKind_14 (by decide) ?_
    refine am_istore_n (lv' := [(2, .int 0), (0, .ref ((zB z).size + 64)), (1, .int v1)]) hz1 dX12_laysKind_15 rfl rfl rfl ?_
    exact am_sub (lv' := [(0, .ref ((zB z).size + 64)), (1, .int v1), (2, .int 0)]) [1, 2, 0] rfl h
  · replace h := h.2 c1
    refine am_aload_n hz1 dX12_laysKind_5 0 rfl rfl ?_
    obtain ⟨dq2, postq2, hdq2, hMq2, h⟩ := h
    refine am_callV hz1 cv_X12_283 [] [] hMq2 (ln_64 hG) (lk_64 hG) rfl rfl (hz.fr hdq2) (hz.lo hdq2) (by rw [hz.2.1]; exact ⟨Nat.le_refl _, Nat.le_refl _⟩) (Nat.le_of_ble_eq_true rfl) dX12_laysKind_6 (fun roq2 Gq2 Iq2 Lq2 hpq2 => ?_)
    obtain ⟨rfl, hGq2, h⟩ := h roq2 Gq2 Iq2 Lq2 hpq2
    exact am_return hz dX12_laysKind_9 h
set_option maxRecDepth 100000 in
set_option maxHeartbeats 4000000 in
theorem b_X12_laysKind_16 {z : amZ} {post : amP} {G : amG} {I : amI} {L : amL} (hz : Go z cX12_laysKind RX12 4 none 6 0 0 post) (hG : Lay G) {v1 : Int32} {v2 : Int32} (h : (((m_many L) ≤ v2) → post none G I L) ∧ ((¬ (m_many L) ≤ v2) → Wx z 0 0 26 [(0, .ref ((zB z).size + 64)), (1, .int v1), (2, .int v2), (3, .int 0)] [] G I L)) : Wx z 0 0 16 [(0, .ref ((zB z).size + 64)), (1, .int v1), (2, .int v2)] [] G I L := by
  have hz1 := hz.1
  refine am_iload_n hz1 dX12_laysKind_16 2 rfl rfl ?_
  refine am_aload_n hz1 dX12_laysKind_17 0 rfl rfl ?_
  refine am_cVf hz cv_X12_78 [] [.int v2] (c_X12_many hG  ) (ln_64 hG) (lk_64 hG) rfl rfl rfl ⟨Nat.le_refl _, Nat.le_refl _⟩ (Nat.le_of_ble_eq_true rfl) dX12_laysKind_18 ?_
  refine am_icmp_ge (tgt := 73) hz1 dX12_laysKind_21 (by decide) (fun c1 => ?_) (fun c1 => ?_)
  · replace h := h.1 c1
    exact am_return hz dX12_laysKind_73 h
  · replace h := h.2 c1
    refine am_iconst (v := 0) hz1 dX12_laysKind_24 (by decide) ?_
    refine am_istore_n (lv' := [(3, .int 0), (0, .ref ((zB z).size + 64)), (1, .int v1), (2, .int v2)]) hz1 dX12_laysKind_25 rfl rfl rfl ?_
    exact am_sub (lv' := [(0, .ref ((zB z).size + 64)), (1, .int v1), (2, .int v2), (3, .int 0)]) [1, 2, 3, 0] rfl h
set_option maxRecDepth 100000 in
set_option maxHeartbeats 4000000 in
theorem b_X12_laysKind_26 {z : amZ} {post : amP} {G : amG} {I : amI} {L : amL} (hz : Go z cX12_laysKind RX12 4 none 6 0 0 post) (hG : Lay G) {v1 : Int32} {v2 : Int32} {v3 : Int32} (h : (((m_many L) ≤ v3) → Wx z 0 0 16 [(0, .ref ((zB z).size + 64)), (1, .int v1), (2, .int (v2 + 1))] [] G I L) ∧ ((¬ (m_many L) ≤ v3) → (vp_in v2 16) ∧ ((m_am L v2 v3 = false) → Wx z 0 0 26 [(0, .ref ((zB z).size + 64)), (1, .int v1), (2, .int v2), (3, .int (v3 + 1))] [] G I L) ∧ ((m_am L v2 v3 = true) → (mOk L) ∧ (vp_in v2 16) ∧ vp_in (((16 : Int32) * v2) + v3) 256 ∧ Wx z 0 0 26 [(0, .ref ((zB z).size + 64)), (1, .int v1), (2, .int v2), (3, .int (v3 + 1))] [] G I (setL L 72 (vp_updL (L 72) (((16 : Int32) * v2) + v3).toNatClampNeg (m_kv L v1 v2 v3)))))) : Wx z 0 0 26 [(0, .ref ((zB z).size + 64)), (1, .int v1), (2, .int v2), (3, .int v3)] [] G I L := by
  have hz1 := hz.1
  refine am_iload_n hz1 dX12_laysKind_26 3 rfl rfl ?_
  refine am_aload_n hz1 dX12_laysKind_27 0 rfl rfl ?_
  refine am_cVf hz cv_X12_78 [] [.int v3] (c_X12_many hG  ) (ln_64 hG) (lk_64 hG) rfl rfl rfl ⟨Nat.le_refl _, Nat.le_refl _⟩ (Nat.le_of_ble_eq_true rfl) dX12_laysKind_28 ?_
  refine am_icmp_ge (tgt := 67) hz1 dX12_laysKind_31 (by decide) (fun c1 => ?_) (fun c1 => ?_)
  · replace h := h.1 c1
    refine am_iinc (v := v2 + 1) (lv' := [(2, .int (v2 + 1)), (0, .ref ((zB z).size + 64)), (1, .int v1), (3, .int v3)]) hz1 dX12_laysKind_67 2 rfl rfl rfl rfl ?_
    refine am_goto (tgt := 16) hz1 dX12_laysKind_70 (by decide) ?_
    exact am_sub (lv' := [(0, .ref ((zB z).size + 64)), (1, .int v1), (2, .int (v2 + 1))]) [1, 2, 0] rfl h
  · replace h := h.2 c1
    refine am_aload_n hz1 dX12_laysKind_34 0 rfl rfl ?_
    refine am_iload_n hz1 dX12_laysKind_35 2 rfl rfl ?_
    refine am_iload_n hz1 dX12_laysKind_36 3 rfl rfl ?_
    obtain ⟨g2, h⟩ := h
    refine am_cVf hz cv_X12_94 [.int v2, .int v3] [] (c_X12_isAtMost hG v2 v3 g2) (ln_64 hG) (lk_64 hG) rfl rfl rfl ⟨Nat.le_refl _, Nat.le_refl _⟩ (Nat.le_of_ble_eq_true rfl) dX12_laysKind_37 ?_
    refine am_ifb_eq (tgt := 61) hz1 dX12_laysKind_40 (by decide) (fun c3 => ?_) (fun c3 => ?_)
    · replace h := h.1 c3
      refine am_iinc (v := v3 + 1) (lv' := [(3, .int (v3 + 1)), (0, .ref ((zB z).size + 64)), (1, .int v1), (2, .int v2)]) hz1 dX12_laysKind_61 3 rfl rfl rfl rfl ?_
      refine am_goto (tgt := 26) hz1 dX12_laysKind_64 (by decide) ?_
      exact am_sub (lv' := [(0, .ref ((zB z).size + 64)), (1, .int v1), (2, .int v2), (3, .int (v3 + 1))]) [1, 2, 3, 0] rfl h
    · replace h := h.2 c3
      refine am_aload_n hz1 dX12_laysKind_43 0 rfl rfl ?_
      refine am_getR hz1 fl_X12_35 (ln_64 hG) (lk_64 hG) (lr_64_16 hG) rfl dX12_laysKind_44 ?_
      refine am_bipush (v := 16) hz1 dX12_laysKind_47 (by decide) ?_
      refine am_iload_n hz1 dX12_laysKind_49 2 rfl rfl ?_
      refine am_imul hz1 dX12_laysKind_50 ?_
      refine am_iload_n hz1 dX12_laysKind_51 3 rfl rfl ?_
      refine am_iadd hz1 dX12_laysKind_52 ?_
      refine am_aload_n hz1 dX12_laysKind_53 0 rfl rfl ?_
      refine am_iload_n hz1 dX12_laysKind_54 1 rfl rfl ?_
      refine am_iload_n hz1 dX12_laysKind_55 2 rfl rfl ?_
      refine am_iload_n hz1 dX12_laysKind_56 3 rfl rfl ?_
      obtain ⟨g4, h⟩ := h
      obtain ⟨g5, h⟩ := h
      refine am_cVf hz cv_X12_286 [.int v1, .int v2, .int v3] [.int (((16 : Int32) * v2) + v3), .ref ((zB z).size + 72)] (c_X12_kindValue hG v1 v2 v3 g4 g5) (ln_64 hG) (lk_64 hG) rfl rfl rfl ⟨Nat.le_refl _, Nat.le_refl _⟩ (Nat.le_of_ble_eq_true rfl) dX12_laysKind_57 ?_
      obtain ⟨g6, h⟩ := h
      refine am_last hz1 (ln_72 hG) (lk_72 hG) (by rw [(ll_72 hG)]; exact g6) dX12_laysKind_60 ?_
      refine am_iinc (v := v3 + 1) (lv' := [(3, .int (v3 + 1)), (0, .ref ((zB z).size + 64)), (1, .int v1), (2, .int v2)]) hz1 dX12_laysKind_61 3 rfl rfl rfl rfl ?_
      refine am_goto (tgt := 26) hz1 dX12_laysKind_64 (by decide) ?_
      exact am_sub (lv' := [(0, .ref ((zB z).size + 64)), (1, .int v1), (2, .int v2), (3, .int (v3 + 1))]) [1, 2, 3, 0] rfl h
set_option maxRecDepth 100000 in
set_option maxHeartbeats 4000000 in
theorem c_X12_laysKind {l : Launch} {D : va_G} {B : Heap} {G : amG} {I : amI} {L : amL}  (hG : Lay G)  (v1 : Int32) {n : Nat} {A : Nat → Int32} (hM : MO L n A) : Mx l D B yX12_laysKind cX12_laysKind 4 none 6 0 0 [.ref (B.size + 64), .int v1] G I L (fun r G1 I1 L1 => r = none ∧ G1 = G ∧ I1 = I ∧ ∃ f : Nat → Int64, L1 = setL L 72 f ∧ KV (kdM L v1 n A) n f) := by
  refine Mx.of (by decide) rfl rfl (fun z e1 e2 e3 hz => ?_)
  subst e1; subst e2; subst e3
  refine b_X12_laysKind_0 hz hG ?_
  have h16 := hM.2.1
  have h1 := hM.1
  have hM' : ∀ f, MO (setL L 72 f) n A := fun f => MO_72 hM (by decide)
  refine ⟨fun h => ?_, fun h => ⟨5, _, rfl, c_X12_moebiusMade hG hM, fun ro G2 I2 L2 ⟨e1, e2, e3, f, e4, e5⟩ => ⟨e1, by rw [e2]; exact hG, rfl, e2, e3, f, e4, KV_c e5 (fun a b ha hb => by rw [muT, kdM, if_pos h])⟩⟩⟩
  have rows : ∀ f, RK n (le A) (fun _ _ => 1) (fun a b => m_kv L v1 (nI a) (nI b)) (fun _ _ => false) 1 0 0 f false → Wx z 0 0 16 [(0, .ref ((zB z).size + 64)), (1, .int v1), (2, .int (nI 0))] [] G I (setL L 72 f) := by
    refine for_up (P := fun a => ∀ f, RK n (le A) (fun _ _ => 1) (fun a b => m_kv L v1 (nI a) (nI b)) (fun _ _ => false) 1 a 0 f false → Wx z 0 0 16 [(0, .ref ((zB z).size + 64)), (1, .int v1), (2, .int (nI a))] [] G I (setL L 72 f)) (n := n) ?_ ?_ (Nat.zero_le _)
    · intro f hf
      refine b_X12_laysKind_16 hz hG ⟨fun _ => ⟨rfl, rfl, rfl, f, rfl, ?_⟩, fun h => absurd (mm_le (hM' f)) h⟩
      have := RK_end (RK_c (N' := n + 1) (a' := 0) (b' := 0) hf (fun x y hx hy _ => ⟨fun _ => Or.inl (by show 1 < n + 1; omega), fun _ => Or.inr ⟨rfl, Or.inl hx⟩⟩)) (fun x y hx hy _ => h1)
      refine KV_c this.1 (fun a b ha hb => ?_)
      show (if le A a b = true then m_kv L v1 (nI a) (nI b) else 0) = kdM L v1 n A a b
      rw [kdM, if_neg h]
    · intro a ha ah f hf
      refine b_X12_laysKind_16 hz hG ⟨fun h => absurd h (mm_ge (hM' f) ha), fun _ => ?_⟩
      have cols : ∀ f, RK n (le A) (fun _ _ => 1) (fun a b => m_kv L v1 (nI a) (nI b)) (fun _ _ => false) 1 a 0 f false → Wx z 0 0 26 [(0, .ref ((zB z).size + 64)), (1, .int v1), (2, .int (nI a)), (3, .int (nI 0))] [] G I (setL L 72 f) := by
        refine for_up (P := fun b => ∀ f, RK n (le A) (fun _ _ => 1) (fun a b => m_kv L v1 (nI a) (nI b)) (fun _ _ => false) 1 a b f false → Wx z 0 0 26 [(0, .ref ((zB z).size + 64)), (1, .int v1), (2, .int (nI a)), (3, .int (nI b))] [] G I (setL L 72 f)) (n := n) ?_ ?_ (Nat.zero_le _)
        · intro f hf
          refine b_X12_laysKind_26 hz hG ⟨fun _ => ?_, fun h => absurd (mm_le (hM' f)) h⟩
          rw [nI_1]
          exact ah f (RK_row hf)
        · intro b hb bh f hf
          have hO := hM' f
          refine b_X12_laysKind_26 hz hG ⟨fun h => absurd h (mm_ge hO hb), fun _ => ⟨in16 h16 ha, fun h => ?_, fun h => ⟨⟨n, A, hO⟩, in16 h16 ha, by rw [c16]; exact in_nI (by omega) (by decide), ?_⟩⟩⟩
          · rw [hO.am ha (by omega)] at h
            rw [nI_1]
            exact bh f (RK_n hf (fun q => by rw [h] at q; cases q))
          · rw [hO.am ha (by omega)] at h
            rw [nI_1, c16, cl_nI (n := 16 * a + b) (by omega), setL_ss, setL_s]
            refine bh _ (RK_s h16 hf ha hb h rfl ?_)
            exact MO.kv (setL_n (by decide))
      exact cols f hf
  exact rows _ (RK_0 (fun x y hx hy h => Nat.le_refl _))
