/-! THE TWO OBJECTS ARE MADE -/
def gE : amG := (0, fun _ => 0, fun _ => 0, fun _ _ => none)
def iE : amI := fun _ _ => 0
def lE : amL := fun _ _ => 0
def o1 : Nat → Int32 := upd (fun _ => 0) 0 1
def m1 : Nat → Int32 := q_fill (fun _ => 0) 16 (-1)
theorem zI_id {I : amI} {p : Nat} (h : I p = fun _ => 0) : zI I p = I := by
  funext q
  rw [zI, setI]
  by_cases e : q = p
  · rw [if_pos e, e, h]
  · rw [if_neg e]
theorem zL_id {p : Nat} : zL0 lE p = lE := by
  funext q
  rw [zL0, setL]
  split <;> rfl
def gA0 : amG := gNew gE 11 0
def iA0 : amI := iE
theorem am_fold {z : amZ} {ce sl pc : Nat} {lv : List (Nat × Value)} {st : List Value} {G G1 : amG} {I : amI} {L : amL} (e : G1 = G) (h : Wx z ce sl pc lv st G1 I L) : Wx z ce sl pc lv st G I L := by rw [← e]; exact h
theorem nA0 : gN gA0 = 1 := rfl
theorem eI0 : iX10 (gNew gA0 10 0) iA0 1 = iA0 := (zI_id rfl).trans rfl
theorem eL0 : lX10 (gNew gA0 10 0) lE = lE := by
  simp only [lX10, zL_id]
def gA1 : amG := gX10 (gNew gA0 10 0) 1
theorem nA1 : gN gA1 = 3 := rfl
def gA2 : amG := gPut gA1 0 0 1
theorem nA2 : gN gA2 = 3 := rfl
def iA1 : amI := setI iA0 3 o1
theorem eI2 : iX4 (gNew gA2 4 0) iA0 3 = iA1 := (zI_id rfl).trans ((zI_id rfl).trans ((zI_id rfl).trans ((zI_id rfl).trans ((zI_id rfl).trans ((zI_id rfl).trans rfl)))))
theorem eL2 : lX4 (gNew gA2 4 0) lE = lE := by
  simp only [lX4, zL_id]
def gA3 : amG := gX4 (gNew gA2 4 0) 3
theorem nA3 : gN gA3 = 10 := rfl
def gA4 : amG := gPut gA3 0 2 3
theorem nA4 : gN gA4 = 10 := rfl
def iA2 : amI := setI iA1 10 o1
theorem eI4 : iX4 (gNew gA4 4 0) iA1 10 = iA2 := (zI_id rfl).trans ((zI_id rfl).trans ((zI_id rfl).trans ((zI_id rfl).trans ((zI_id rfl).trans ((zI_id rfl).trans rfl)))))
theorem eL4 : lX4 (gNew gA4 4 0) lE = lE := by
  simp only [lX4, zL_id]
def gA5 : amG := gX4 (gNew gA4 4 0) 10
theorem nA5 : gN gA5 = 17 := rfl
def gA6 : amG := gPut gA5 0 3 10
theorem nA6 : gN gA6 = 17 := rfl
theorem eI6 : iX6 (gNew gA6 6 0) iA2 17 = iA2 := (zI_id rfl).trans rfl
theorem eL6 : lX6 (gNew gA6 6 0) lE = lE := by
  simp only [lX6, zL_id]
def gA7 : amG := gX6 (gNew gA6 6 0) 17 1 10
theorem nA7 : gN gA7 = 19 := rfl
def gA8 : amG := gPut gA7 0 1 17
theorem nA8 : gN gA8 = 19 := rfl
def gA9 : amG := gNew gA8 53 2
theorem nA9 : gN gA9 = 20 := rfl
def gA10 : amG := gPut gA9 0 4 19
theorem nA10 : gN gA10 = 20 := rfl
def iA3 : amI := setI iA2 20 o1
theorem eI10 : iX4 (gNew gA10 4 0) iA2 20 = iA3 := (zI_id rfl).trans ((zI_id rfl).trans ((zI_id rfl).trans ((zI_id rfl).trans ((zI_id rfl).trans ((zI_id rfl).trans rfl)))))
theorem eL10 : lX4 (gNew gA10 4 0) lE = lE := by
  simp only [lX4, zL_id]
def gA11 : amG := gX4 (gNew gA10 4 0) 20
theorem nA11 : gN gA11 = 27 := rfl
def gA12 : amG := gPut gA11 19 0 20
theorem nA12 : gN gA12 = 27 := rfl
def iA4 : amI := setI iA3 27 o1
theorem eI12 : iX4 (gNew gA12 4 0) iA3 27 = iA4 := (zI_id rfl).trans ((zI_id rfl).trans ((zI_id rfl).trans ((zI_id rfl).trans ((zI_id rfl).trans ((zI_id rfl).trans rfl)))))
theorem eL12 : lX4 (gNew gA12 4 0) lE = lE := by
  simp only [lX4, zL_id]
def gA13 : amG := gX4 (gNew gA12 4 0) 27
theorem nA13 : gN gA13 = 34 := rfl
def gA14 : amG := gPut gA13 19 1 27
theorem nA14 : gN gA14 = 34 := rfl
theorem eI14 : iX9 (gNew gA14 9 0) iA4 34 = iA4 := rfl
theorem eL14 : lX9 (gNew gA14 9 0) lE = lE := rfl
def gA15 : amG := gX9 (gNew gA14 9 0) 34
theorem nA15 : gN gA15 = 35 := rfl
def gA16 : amG := gPut gA15 0 12 34
theorem nA16 : gN gA16 = 35 := rfl
theorem eI16 : iX0 (gNew gA16 0 0) iA4 35 = iA4 := (zI_id rfl).trans ((zI_id rfl).trans ((zI_id rfl).trans ((zI_id rfl).trans rfl)))
theorem eL16 : lX0 (gNew gA16 0 0) lE = lE := by
  simp only [lX0, zL_id]
def gA17 : amG := gX0 (gNew gA16 0 0) 35 3 34
theorem nA17 : gN gA17 = 40 := rfl
def gA18 : amG := gPut gA17 0 5 35
theorem nA18 : gN gA18 = 40 := rfl
def gA19 : amG := gNew gA18 52 16
theorem nA19 : gN gA19 = 41 := rfl
def gA20 : amG := gPut gA19 0 6 40
theorem nA20 : gN gA20 = 41 := rfl
def iA5 : amI := setI iA4 42 m1
theorem eI20 : iX3 (gNew gA20 3 0) iA4 41 = iA5 := by
  show setI (zI iA4 42) 42 (q_fill ((zI iA4 42) 42) 16 (-1)) = _
  rw [zI_id (I := iA4) rfl]; rfl
theorem eL20 : lX3 (gNew gA20 3 0) lE = lE := by
  simp only [lX3, zL_id]
def gA21 : amG := gX3 (gNew gA20 3 0) 41 3 20
theorem nA21 : gN gA21 = 43 := rfl
def gA22 : amG := gPut gA21 0 7 41
theorem nA22 : gN gA22 = 43 := rfl
theorem eI22 : iX5 (gNew gA22 5 0) iA5 43 = iA5 := (zI_id rfl).trans ((zI_id rfl).trans rfl)
theorem eL22 : lX5 (gNew gA22 5 0) lE = lE := by
  simp only [lX5, zL_id]
def gA23 : amG := gX5 (gNew gA22 5 0) 43 3
theorem nA23 : gN gA23 = 46 := rfl
def gA24 : amG := gPut gA23 0 8 43
theorem nA24 : gN gA24 = 46 := rfl
theorem eI24 : iX2 (gNew gA24 2 0) iA5 46 = iA5 := (zI_id rfl).trans ((zI_id rfl).trans ((zI_id rfl).trans ((zI_id rfl).trans ((zI_id rfl).trans ((zI_id rfl).trans ((zI_id rfl).trans ((zI_id rfl).trans ((zI_id rfl).trans rfl))))))))
theorem eL24 : lX2 (gNew gA24 2 0) lE = lE := by
  simp only [lX2, zL_id]
def gA25 : amG := gX2 (gNew gA24 2 0) 46 3
theorem nA25 : gN gA25 = 56 := rfl
def gA26 : amG := gPut gA25 0 9 46
theorem nA26 : gN gA26 = 56 := rfl
theorem eI26 : iX7 (gNew gA26 7 0) iA5 56 = iA5 := (zI_id rfl).trans ((zI_id rfl).trans ((zI_id rfl).trans ((zI_id rfl).trans rfl)))
theorem eL26 : lX7 (gNew gA26 7 0) lE = lE := by
  simp only [lX7, zL_id]
def gA27 : amG := gX7 (gNew gA26 7 0) 56 3
theorem nA27 : gN gA27 = 61 := rfl
def gA28 : amG := gPut gA27 0 10 56
theorem nA28 : gN gA28 = 61 := rfl
theorem eI28 : iX1 (gNew gA28 1 0) iA5 61 = iA5 := (zI_id rfl).trans rfl
theorem eL28 : lX1 (gNew gA28 1 0) lE = lE := by
  simp only [lX1, zL_id]
def gA29 : amG := gX1 (gNew gA28 1 0) 61
theorem nA29 : gN gA29 = 63 := rfl
def gA30 : amG := gPut gA29 0 11 61
theorem nA30 : gN gA30 = 63 := rfl
def gA31 : amG := gNew gA30 52 16
theorem nA31 : gN gA31 = 64 := rfl
def gA32 : amG := gPut gA31 0 13 63
theorem nA32 : gN gA32 = 64 := rfl
def gAF : amG := gA32
def iAF : amI := iA5
set_option maxRecDepth 100000 in
set_option maxHeartbeats 8000000 in
theorem c_X11_init {l : Launch} {D : va_G} {B : Heap} : Mx l D B yX11_init cX11_init 2 none 2 63 3030 [.ref (B.size + 0)] gA0 iA0 lE (fun r G1 I1 L1 => r = none ∧ G1 = gA32 ∧ I1 = iA5 ∧ L1 = lE) := by
  refine Mx.ofI (by decide) rfl rfl (fun z e1 e2 e3 hin2 hz => ?_)
  subst e1; subst e2; subst e3
  have hz1 := hz.1
  refine am_aload_n hz1 dX11_init_0 0 rfl rfl ?_
  refine am_oinit hz1 (tt_of 177 (by decide +kernel) rfl) oi_m (tt_of 179 (by decide +kernel) rfl) (hz.fr (d := 0) rfl) (Nat.le_trans (Nat.le_of_ble_eq_true rfl) (hz.lo (d := 0) rfl)) dX11_init_1 ?_
  refine am_aload_n hz1 dX11_init_4 0 rfl rfl ?_
  refine am_new hz1 cls_X10 (by decide) (tt_of 180 (by decide +kernel) rfl) (tt_of 181 (by decide +kernel) rfl) (tt_of 152 (by decide +kernel) rfl) (by rw [hz.2.1]; exact Nat.le_of_ble_eq_true rfl) (by rw [hz.2.1]; exact Nat.le_of_ble_eq_true rfl) dX11_init_5 ?_
  rw [nA0, show setI iA0 1 (fun _ => 0) = iA0 from zI_id rfl, show setL lE 1 (fun _ => 0) = lE from zL_id]
  refine am_dup hz1 dX11_init_8 rfl ?_
  refine am_callIN (o := 1) hz1 ci_X11_13 [] [.ref ((zB z).size + 1), .ref ((zB z).size + 0)] (c_X10_init (G := gNew gA0 10 0) (p := 1) (show 1 < gN (gNew gA0 10 0) by decide +kernel) (show gK (gNew gA0 10 0) 1 = 10 by decide +kernel)) rfl rfl (hz.fr (d := 1) rfl) (hz.lo (d := 1) rfl) (by rw [hz.2.1]; exact ⟨Nat.le_of_ble_eq_true rfl, Nat.le_of_ble_eq_true rfl⟩) (Nat.le_of_ble_eq_true rfl) dX11_init_9 (fun ro0 G0 I0 L0 ⟨a1, a2, a3, a4⟩ => ?_)
  subst a1; subst a2; subst a3; subst a4
  rw [eI0, eL0]
  refine am_fold (G1 := gA1) rfl ?_
  refine am_putF hz1 hin2 cls_X11 (k := 0) (by decide) (tt_of 451 (by decide +kernel) rfl) rfl rfl (show 0 < gN gA1 by decide +kernel) (show gK gA1 0 = 11 by decide +kernel) (fun _ => rfl) (fun _ => rfl) (fun _ => rfl) dX11_init_12 ?_
  refine am_fold (G1 := gA2) rfl ?_
  refine am_aload_n hz1 dX11_init_15 0 rfl rfl ?_
  refine am_new hz1 cls_X4 (by decide) (tt_of 196 (by decide +kernel) rfl) (tt_of 197 (by decide +kernel) rfl) (tt_of 153 (by decide +kernel) rfl) (by rw [hz.2.1]; exact Nat.le_of_ble_eq_true rfl) (by rw [hz.2.1]; exact Nat.le_of_ble_eq_true rfl) dX11_init_16 ?_
  rw [nA2, show setI iA0 3 (fun _ => 0) = iA0 from zI_id rfl, show setL lE 3 (fun _ => 0) = lE from zL_id]
  refine am_dup hz1 dX11_init_19 rfl ?_
  refine am_callIN (o := 3) hz1 ci_X11_20 [] [.ref ((zB z).size + 3), .ref ((zB z).size + 0)] (c_X4_init (G := gNew gA2 4 0) (p := 3) (show 3 < gN (gNew gA2 4 0) by decide +kernel) (show gK (gNew gA2 4 0) 3 = 4 by decide +kernel)) rfl rfl (hz.fr (d := 1) rfl) (hz.lo (d := 1) rfl) (by rw [hz.2.1]; exact ⟨Nat.le_of_ble_eq_true rfl, Nat.le_of_ble_eq_true rfl⟩) (Nat.le_of_ble_eq_true rfl) dX11_init_20 (fun ro2 G2 I2 L2 ⟨a1, a2, a3, a4⟩ => ?_)
  subst a1; subst a2; subst a3; subst a4
  rw [eI2, eL2]
  refine am_fold (G1 := gA3) rfl ?_
  refine am_putF hz1 hin2 cls_X11 (k := 2) (by decide) (tt_of 453 (by decide +kernel) rfl) rfl rfl (show 0 < gN gA3 by decide +kernel) (show gK gA3 0 = 11 by decide +kernel) (fun _ => rfl) (fun _ => rfl) (fun _ => rfl) dX11_init_23 ?_
  refine am_fold (G1 := gA4) rfl ?_
  refine am_aload_n hz1 dX11_init_26 0 rfl rfl ?_
  refine am_new hz1 cls_X4 (by decide) (tt_of 196 (by decide +kernel) rfl) (tt_of 197 (by decide +kernel) rfl) (tt_of 153 (by decide +kernel) rfl) (by rw [hz.2.1]; exact Nat.le_of_ble_eq_true rfl) (by rw [hz.2.1]; exact Nat.le_of_ble_eq_true rfl) dX11_init_27 ?_
  rw [nA4, show setI iA1 10 (fun _ => 0) = iA1 from zI_id rfl, show setL lE 10 (fun _ => 0) = lE from zL_id]
  refine am_dup hz1 dX11_init_30 rfl ?_
  refine am_callIN (o := 10) hz1 ci_X11_20 [] [.ref ((zB z).size + 10), .ref ((zB z).size + 0)] (c_X4_init (G := gNew gA4 4 0) (p := 10) (show 10 < gN (gNew gA4 4 0) by decide +kernel) (show gK (gNew gA4 4 0) 10 = 4 by decide +kernel)) rfl rfl (hz.fr (d := 1) rfl) (hz.lo (d := 1) rfl) (by rw [hz.2.1]; exact ⟨Nat.le_of_ble_eq_true rfl, Nat.le_of_ble_eq_true rfl⟩) (Nat.le_of_ble_eq_true rfl) dX11_init_31 (fun ro4 G4 I4 L4 ⟨a1, a2, a3, a4⟩ => ?_)
  subst a1; subst a2; subst a3; subst a4
  rw [eI4, eL4]
  refine am_fold (G1 := gA5) rfl ?_
  refine am_putF hz1 hin2 cls_X11 (k := 3) (by decide) (tt_of 454 (by decide +kernel) rfl) rfl rfl (show 0 < gN gA5 by decide +kernel) (show gK gA5 0 = 11 by decide +kernel) (fun _ => rfl) (fun _ => rfl) (fun _ => rfl) dX11_init_34 ?_
  refine am_fold (G1 := gA6) rfl ?_
  refine am_aload_n hz1 dX11_init_37 0 rfl rfl ?_
  refine am_new hz1 cls_X6 (by decide) (tt_of 247 (by decide +kernel) rfl) (tt_of 248 (by decide +kernel) rfl) (tt_of 154 (by decide +kernel) rfl) (by rw [hz.2.1]; exact Nat.le_of_ble_eq_true rfl) (by rw [hz.2.1]; exact Nat.le_of_ble_eq_true rfl) dX11_init_38 ?_
  rw [nA6, show setI iA2 17 (fun _ => 0) = iA2 from zI_id rfl, show setL lE 17 (fun _ => 0) = lE from zL_id]
  refine am_dup hz1 dX11_init_41 rfl ?_
  refine am_aload_n hz1 dX11_init_42 0 rfl rfl ?_
  refine am_getR (r := 1) hz1 fl_X11_14 (show 0 < gN (gNew gA6 6 0) by decide +kernel) (show gK (gNew gA6 6 0) 0 = 11 by decide +kernel) (show gR (gNew gA6 6 0) 0 0 = some 1 by decide +kernel) rfl dX11_init_43 ?_
  refine am_aload_n hz1 dX11_init_46 0 rfl rfl ?_
  refine am_getR (r := 10) hz1 fl_X11_25 (show 0 < gN (gNew gA6 6 0) by decide +kernel) (show gK (gNew gA6 6 0) 0 = 11 by decide +kernel) (show gR (gNew gA6 6 0) 0 3 = some 10 by decide +kernel) rfl dX11_init_47 ?_
  refine am_callI (o := 17) hz1 ci_X11_30 [.ref ((zB z).size + 1), .ref ((zB z).size + 10)] [.ref ((zB z).size + 17), .ref ((zB z).size + 0)] (c_X6_init (G := gNew gA6 6 0) (p := 17) (q1 := 1) (q2 := 10) (show 17 < gN (gNew gA6 6 0) by decide +kernel) (show gK (gNew gA6 6 0) 17 = 6 by decide +kernel)) rfl rfl (hz.fr (d := 1) rfl) (hz.lo (d := 1) rfl) (by rw [hz.2.1]; exact ⟨Nat.le_of_ble_eq_true rfl, Nat.le_of_ble_eq_true rfl⟩) (Nat.le_of_ble_eq_true rfl) dX11_init_50 (fun ro6 G6 I6 L6 ⟨a1, a2, a3, a4⟩ => ?_)
  subst a1; subst a2; subst a3; subst a4
  rw [eI6, eL6]
  refine am_fold (G1 := gA7) rfl ?_
  refine am_putF hz1 hin2 cls_X11 (k := 1) (by decide) (tt_of 452 (by decide +kernel) rfl) rfl rfl (show 0 < gN gA7 by decide +kernel) (show gK gA7 0 = 11 by decide +kernel) (fun _ => rfl) (fun _ => rfl) (fun _ => rfl) dX11_init_53 ?_
  refine am_fold (G1 := gA8) rfl ?_
  refine am_aload_n hz1 dX11_init_56 0 rfl rfl ?_
  refine am_iconst (v := 2) hz1 dX11_init_57 (by decide) ?_
  refine am_newR (N := 2) (t := 3) (kd := 53) hz1 rfl (by decide) hz1.2.2.2.2.2.1.2.2.1 (tt_of 196 (by decide +kernel) rfl) (by decide) (by decide) (by decide) (by rw [hz.2.1]; exact Nat.le_of_ble_eq_true rfl) (by rw [hz.2.1]; exact Nat.le_of_ble_eq_true rfl) dX11_init_58 ?_
  rw [nA8, show setI iA2 19 (fun _ => 0) = iA2 from zI_id rfl, show setL lE 19 (fun _ => 0) = lE from zL_id]
  refine am_fold (G1 := gA9) rfl ?_
  refine am_putF hz1 hin2 cls_X11 (k := 4) (by decide) (tt_of 455 (by decide +kernel) rfl) rfl rfl (show 0 < gN gA9 by decide +kernel) (show gK gA9 0 = 11 by decide +kernel) (fun _ => rfl) (fun _ => rfl) (fun _ => rfl) dX11_init_61 ?_
  refine am_fold (G1 := gA10) rfl ?_
  refine am_iconst (v := 0) hz1 dX11_init_64 (by decide) ?_
  refine am_istore_n (lv' := [(1, .int 0), (0, .ref ((zB z).size + 0))]) hz1 dX11_init_65 rfl rfl rfl ?_
  refine am_iload_n hz1 dX11_init_66 0 rfl rfl ?_
  refine am_iconst (v := 2) hz1 dX11_init_67 (by decide) ?_
  refine am_icmp_ge (tgt := 90) hz1 dX11_init_68 (by decide) (fun c => absurd c (by decide)) (fun c => ?_)
  refine am_aload_n hz1 dX11_init_71 1 rfl rfl ?_
  refine am_getR (r := 19) hz1 fl_X11_37 (show 0 < gN gA10 by decide +kernel) (show gK gA10 0 = 11 by decide +kernel) (show gR gA10 0 4 = some 19 by decide +kernel) rfl dX11_init_72 ?_
  refine am_iload_n hz1 dX11_init_75 0 rfl rfl ?_
  refine am_new hz1 cls_X4 (by decide) (tt_of 196 (by decide +kernel) rfl) (tt_of 197 (by decide +kernel) rfl) (tt_of 153 (by decide +kernel) rfl) (by rw [hz.2.1]; exact Nat.le_of_ble_eq_true rfl) (by rw [hz.2.1]; exact Nat.le_of_ble_eq_true rfl) dX11_init_76 ?_
  rw [nA10, show setI iA2 20 (fun _ => 0) = iA2 from zI_id rfl, show setL lE 20 (fun _ => 0) = lE from zL_id]
  refine am_dup hz1 dX11_init_79 rfl ?_
  refine am_callIN (o := 20) hz1 ci_X11_20 [] [.ref ((zB z).size + 20), .int 0, .ref ((zB z).size + 19)] (c_X4_init (G := gNew gA10 4 0) (p := 20) (show 20 < gN (gNew gA10 4 0) by decide +kernel) (show gK (gNew gA10 4 0) 20 = 4 by decide +kernel)) rfl rfl (hz.fr (d := 1) rfl) (hz.lo (d := 1) rfl) (by rw [hz.2.1]; exact ⟨Nat.le_of_ble_eq_true rfl, Nat.le_of_ble_eq_true rfl⟩) (Nat.le_of_ble_eq_true rfl) dX11_init_80 (fun ro10 G10 I10 L10 ⟨a1, a2, a3, a4⟩ => ?_)
  subst a1; subst a2; subst a3; subst a4
  rw [eI10, eL10]
  refine am_fold (G1 := gA11) rfl ?_
  refine am_aast (t := 3) (kd := 53) (r := 20) (p := 19) hz1 rfl (by decide) cls_X4 (show 19 < gN gA11 by decide +kernel) (show gK gA11 19 = 53 by decide +kernel) (by rw [show gL gA11 19 = 2 by decide +kernel]; exact in_nI (n := 0) (by decide) (by decide)) (show 20 < gN gA11 by decide +kernel) (show gK gA11 20 = 4 by decide +kernel) dX11_init_83 ?_
  refine am_fold (G1 := gA12) rfl ?_
  refine am_iinc (v := 1) (lv' := [(1, .int 1), (0, .ref ((zB z).size + 0))]) hz1 dX11_init_84 0 rfl (by decide) rfl rfl ?_
  refine am_goto (tgt := 66) hz1 dX11_init_87 (by decide) ?_
  refine am_iload_n hz1 dX11_init_66 0 rfl rfl ?_
  refine am_iconst (v := 2) hz1 dX11_init_67 (by decide) ?_
  refine am_icmp_ge (tgt := 90) hz1 dX11_init_68 (by decide) (fun c => absurd c (by decide)) (fun c => ?_)
  refine am_aload_n hz1 dX11_init_71 1 rfl rfl ?_
  refine am_getR (r := 19) hz1 fl_X11_37 (show 0 < gN gA12 by decide +kernel) (show gK gA12 0 = 11 by decide +kernel) (show gR gA12 0 4 = some 19 by decide +kernel) rfl dX11_init_72 ?_
  refine am_iload_n hz1 dX11_init_75 0 rfl rfl ?_
  refine am_new hz1 cls_X4 (by decide) (tt_of 196 (by decide +kernel) rfl) (tt_of 197 (by decide +kernel) rfl) (tt_of 153 (by decide +kernel) rfl) (by rw [hz.2.1]; exact Nat.le_of_ble_eq_true rfl) (by rw [hz.2.1]; exact Nat.le_of_ble_eq_true rfl) dX11_init_76 ?_
  rw [nA12, show setI iA3 27 (fun _ => 0) = iA3 from zI_id rfl, show setL lE 27 (fun _ => 0) = lE from zL_id]
  refine am_dup hz1 dX11_init_79 rfl ?_
  refine am_callIN (o := 27) hz1 ci_X11_20 [] [.ref ((zB z).size + 27), .int 1, .ref ((zB z).size + 19)] (c_X4_init (G := gNew gA12 4 0) (p := 27) (show 27 < gN (gNew gA12 4 0) by decide +kernel) (show gK (gNew gA12 4 0) 27 = 4 by decide +kernel)) rfl rfl (hz.fr (d := 1) rfl) (hz.lo (d := 1) rfl) (by rw [hz.2.1]; exact ⟨Nat.le_of_ble_eq_true rfl, Nat.le_of_ble_eq_true rfl⟩) (Nat.le_of_ble_eq_true rfl) dX11_init_80 (fun ro12 G12 I12 L12 ⟨a1, a2, a3, a4⟩ => ?_)
  subst a1; subst a2; subst a3; subst a4
  rw [eI12, eL12]
  refine am_fold (G1 := gA13) rfl ?_
  refine am_aast (t := 3) (kd := 53) (r := 27) (p := 19) hz1 rfl (by decide) cls_X4 (show 19 < gN gA13 by decide +kernel) (show gK gA13 19 = 53 by decide +kernel) (by rw [show gL gA13 19 = 2 by decide +kernel]; exact in_nI (n := 1) (by decide) (by decide)) (show 27 < gN gA13 by decide +kernel) (show gK gA13 27 = 4 by decide +kernel) dX11_init_83 ?_
  refine am_fold (G1 := gA14) rfl ?_
  refine am_iinc (v := 2) (lv' := [(1, .int 2), (0, .ref ((zB z).size + 0))]) hz1 dX11_init_84 0 rfl (by decide) rfl rfl ?_
  refine am_goto (tgt := 66) hz1 dX11_init_87 (by decide) ?_
  refine am_iload_n hz1 dX11_init_66 0 rfl rfl ?_
  refine am_iconst (v := 2) hz1 dX11_init_67 (by decide) ?_
  refine am_icmp_ge (tgt := 90) hz1 dX11_init_68 (by decide) (fun c => ?_) (fun c => absurd (by decide) c)
  refine am_sub (lv' := [(0, .ref ((zB z).size + 0))]) [1] rfl ?_
  refine am_aload_n hz1 dX11_init_90 0 rfl rfl ?_
  refine am_new hz1 cls_X9 (by decide) (tt_of 273 (by decide +kernel) rfl) (tt_of 274 (by decide +kernel) rfl) (tt_of 155 (by decide +kernel) rfl) (by rw [hz.2.1]; exact Nat.le_of_ble_eq_true rfl) (by rw [hz.2.1]; exact Nat.le_of_ble_eq_true rfl) dX11_init_91 ?_
  rw [nA14, show setI iA4 34 (fun _ => 0) = iA4 from zI_id rfl, show setL lE 34 (fun _ => 0) = lE from zL_id]
  refine am_dup hz1 dX11_init_94 rfl ?_
  refine am_callIN (o := 34) hz1 ci_X11_43 [] [.ref ((zB z).size + 34), .ref ((zB z).size + 0)] (c_X9_init (G := gNew gA14 9 0) (p := 34) (show 34 < gN (gNew gA14 9 0) by decide +kernel) (show gK (gNew gA14 9 0) 34 = 9 by decide +kernel)) rfl rfl (hz.fr (d := 1) rfl) (hz.lo (d := 1) rfl) (by rw [hz.2.1]; exact ⟨Nat.le_of_ble_eq_true rfl, Nat.le_of_ble_eq_true rfl⟩) (Nat.le_of_ble_eq_true rfl) dX11_init_95 (fun ro14 G14 I14 L14 ⟨a1, a2, a3, a4⟩ => ?_)
  subst a1; subst a2; subst a3; subst a4
  rw [eI14, eL14]
  refine am_fold (G1 := gA15) rfl ?_
  refine am_putF hz1 hin2 cls_X11 (k := 12) (by decide) (tt_of 463 (by decide +kernel) rfl) rfl rfl (show 0 < gN gA15 by decide +kernel) (show gK gA15 0 = 11 by decide +kernel) (fun _ => rfl) (fun _ => rfl) (fun _ => rfl) dX11_init_98 ?_
  refine am_fold (G1 := gA16) rfl ?_
  refine am_aload_n hz1 dX11_init_101 0 rfl rfl ?_
  refine am_new hz1 cls_X0 (by decide) (tt_of 290 (by decide +kernel) rfl) (tt_of 291 (by decide +kernel) rfl) (tt_of 156 (by decide +kernel) rfl) (by rw [hz.2.1]; exact Nat.le_of_ble_eq_true rfl) (by rw [hz.2.1]; exact Nat.le_of_ble_eq_true rfl) dX11_init_102 ?_
  rw [nA16, show setI iA4 35 (fun _ => 0) = iA4 from zI_id rfl, show setL lE 35 (fun _ => 0) = lE from zL_id]
  refine am_dup hz1 dX11_init_105 rfl ?_
  refine am_aload_n hz1 dX11_init_106 0 rfl rfl ?_
  refine am_getR (r := 3) hz1 fl_X11_21 (show 0 < gN (gNew gA16 0 0) by decide +kernel) (show gK (gNew gA16 0 0) 0 = 11 by decide +kernel) (show gR (gNew gA16 0 0) 0 2 = some 3 by decide +kernel) rfl dX11_init_107 ?_
  refine am_aload_n hz1 dX11_init_110 0 rfl rfl ?_
  refine am_getR (r := 34) hz1 fl_X11_44 (show 0 < gN (gNew gA16 0 0) by decide +kernel) (show gK (gNew gA16 0 0) 0 = 11 by decide +kernel) (show gR (gNew gA16 0 0) 0 12 = some 34 by decide +kernel) rfl dX11_init_111 ?_
  refine am_callI (o := 35) hz1 ci_X11_50 [.ref ((zB z).size + 3), .ref ((zB z).size + 34)] [.ref ((zB z).size + 35), .ref ((zB z).size + 0)] (c_X0_init (G := gNew gA16 0 0) (p := 35) (q1 := 3) (q2 := 34) (show 35 < gN (gNew gA16 0 0) by decide +kernel) (show gK (gNew gA16 0 0) 35 = 0 by decide +kernel)) rfl rfl (hz.fr (d := 1) rfl) (hz.lo (d := 1) rfl) (by rw [hz.2.1]; exact ⟨Nat.le_of_ble_eq_true rfl, Nat.le_of_ble_eq_true rfl⟩) (Nat.le_of_ble_eq_true rfl) dX11_init_114 (fun ro16 G16 I16 L16 ⟨a1, a2, a3, a4⟩ => ?_)
  subst a1; subst a2; subst a3; subst a4
  rw [eI16, eL16]
  refine am_fold (G1 := gA17) rfl ?_
  refine am_putF hz1 hin2 cls_X11 (k := 5) (by decide) (tt_of 456 (by decide +kernel) rfl) rfl rfl (show 0 < gN gA17 by decide +kernel) (show gK gA17 0 = 11 by decide +kernel) (fun _ => rfl) (fun _ => rfl) (fun _ => rfl) dX11_init_117 ?_
  refine am_fold (G1 := gA18) rfl ?_
  refine am_aload_n hz1 dX11_init_120 0 rfl rfl ?_
  refine am_bipush (v := 16) hz1 dX11_init_121 (by decide) ?_
  refine am_newL hz1 ac_long (N := 16) (by decide) (by decide) (by decide) (by rw [hz.2.1]; exact Nat.le_of_ble_eq_true rfl) (by rw [hz.2.1]; exact Nat.le_of_ble_eq_true rfl) dX11_init_123 ?_
  rw [nA18, show setI iA4 40 (fun _ => 0) = iA4 from zI_id rfl, show setL lE 40 (fun _ => 0) = lE from zL_id]
  refine am_fold (G1 := gA19) rfl ?_
  refine am_putF hz1 hin2 cls_X11 (k := 6) (by decide) (tt_of 457 (by decide +kernel) rfl) rfl rfl (show 0 < gN gA19 by decide +kernel) (show gK gA19 0 = 11 by decide +kernel) (fun _ => rfl) (fun _ => rfl) (fun _ => rfl) dX11_init_125 ?_
  refine am_fold (G1 := gA20) rfl ?_
  refine am_aload_n hz1 dX11_init_128 0 rfl rfl ?_
  refine am_new hz1 cls_X3 (by decide) (tt_of 317 (by decide +kernel) rfl) (tt_of 318 (by decide +kernel) rfl) (tt_of 157 (by decide +kernel) rfl) (by rw [hz.2.1]; exact Nat.le_of_ble_eq_true rfl) (by rw [hz.2.1]; exact Nat.le_of_ble_eq_true rfl) dX11_init_129 ?_
  rw [nA20, show setI iA4 41 (fun _ => 0) = iA4 from zI_id rfl, show setL lE 41 (fun _ => 0) = lE from zL_id]
  refine am_dup hz1 dX11_init_132 rfl ?_
  refine am_aload_n hz1 dX11_init_133 0 rfl rfl ?_
  refine am_getR (r := 3) hz1 fl_X11_21 (show 0 < gN (gNew gA20 3 0) by decide +kernel) (show gK (gNew gA20 3 0) 0 = 11 by decide +kernel) (show gR (gNew gA20 3 0) 0 2 = some 3 by decide +kernel) rfl dX11_init_134 ?_
  refine am_aload_n hz1 dX11_init_137 0 rfl rfl ?_
  refine am_getR (r := 19) hz1 fl_X11_37 (show 0 < gN (gNew gA20 3 0) by decide +kernel) (show gK (gNew gA20 3 0) 0 = 11 by decide +kernel) (show gR (gNew gA20 3 0) 0 4 = some 19 by decide +kernel) rfl dX11_init_138 ?_
  refine am_iconst (v := 0) hz1 dX11_init_141 (by decide) ?_
  refine am_aald (r := 20) (p := 19) hz1 (t := 3) (kd := 53) rfl (by decide) (show 19 < gN (gNew gA20 3 0) by decide +kernel) (show gK (gNew gA20 3 0) 19 = 53 by decide +kernel) (by rw [show gL (gNew gA20 3 0) 19 = 2 by decide +kernel]; exact in_nI (n := 0) (by decide) (by decide)) (show gR (gNew gA20 3 0) 19 ((0 : Int32)).toNatClampNeg = some 20 by decide +kernel) dX11_init_142 ?_
  refine am_callI (o := 41) hz1 ci_X11_63 [.ref ((zB z).size + 3), .ref ((zB z).size + 20)] [.ref ((zB z).size + 41), .ref ((zB z).size + 0)] (c_X3_init (G := gNew gA20 3 0) (p := 41) (q1 := 3) (q2 := 20) (show 41 < gN (gNew gA20 3 0) by decide +kernel) (show gK (gNew gA20 3 0) 41 = 3 by decide +kernel)) rfl rfl (hz.fr (d := 1) rfl) (hz.lo (d := 1) rfl) (by rw [hz.2.1]; exact ⟨Nat.le_of_ble_eq_true rfl, Nat.le_of_ble_eq_true rfl⟩) (Nat.le_of_ble_eq_true rfl) dX11_init_143 (fun ro20 G20 I20 L20 ⟨a1, a2, a3, a4⟩ => ?_)
  subst a1; subst a2; subst a3; subst a4
  rw [eI20, eL20]
  refine am_fold (G1 := gA21) rfl ?_
  refine am_putF hz1 hin2 cls_X11 (k := 7) (by decide) (tt_of 458 (by decide +kernel) rfl) rfl rfl (show 0 < gN gA21 by decide +kernel) (show gK gA21 0 = 11 by decide +kernel) (fun _ => rfl) (fun _ => rfl) (fun _ => rfl) dX11_init_146 ?_
  refine am_fold (G1 := gA22) rfl ?_
  refine am_aload_n hz1 dX11_init_149 0 rfl rfl ?_
  refine am_new hz1 cls_X5 (by decide) (tt_of 337 (by decide +kernel) rfl) (tt_of 338 (by decide +kernel) rfl) (tt_of 159 (by decide +kernel) rfl) (by rw [hz.2.1]; exact Nat.le_of_ble_eq_true rfl) (by rw [hz.2.1]; exact Nat.le_of_ble_eq_true rfl) dX11_init_150 ?_
  rw [nA22, show setI iA5 43 (fun _ => 0) = iA5 from zI_id rfl, show setL lE 43 (fun _ => 0) = lE from zL_id]
  refine am_dup hz1 dX11_init_153 rfl ?_
  refine am_aload_n hz1 dX11_init_154 0 rfl rfl ?_
  refine am_getR (r := 3) hz1 fl_X11_21 (show 0 < gN (gNew gA22 5 0) by decide +kernel) (show gK (gNew gA22 5 0) 0 = 11 by decide +kernel) (show gR (gNew gA22 5 0) 0 2 = some 3 by decide +kernel) rfl dX11_init_155 ?_
  refine am_callI (o := 43) hz1 ci_X11_72 [.ref ((zB z).size + 3)] [.ref ((zB z).size + 43), .ref ((zB z).size + 0)] (c_X5_init (G := gNew gA22 5 0) (p := 43) (q1 := 3) (show 43 < gN (gNew gA22 5 0) by decide +kernel) (show gK (gNew gA22 5 0) 43 = 5 by decide +kernel)) rfl rfl (hz.fr (d := 1) rfl) (hz.lo (d := 1) rfl) (by rw [hz.2.1]; exact ⟨Nat.le_of_ble_eq_true rfl, Nat.le_of_ble_eq_true rfl⟩) (Nat.le_of_ble_eq_true rfl) dX11_init_158 (fun ro22 G22 I22 L22 ⟨a1, a2, a3, a4⟩ => ?_)
  subst a1; subst a2; subst a3; subst a4
  rw [eI22, eL22]
  refine am_fold (G1 := gA23) rfl ?_
  refine am_putF hz1 hin2 cls_X11 (k := 8) (by decide) (tt_of 459 (by decide +kernel) rfl) rfl rfl (show 0 < gN gA23 by decide +kernel) (show gK gA23 0 = 11 by decide +kernel) (fun _ => rfl) (fun _ => rfl) (fun _ => rfl) dX11_init_161 ?_
  refine am_fold (G1 := gA24) rfl ?_
  refine am_aload_n hz1 dX11_init_164 0 rfl rfl ?_
  refine am_new hz1 cls_X2 (by decide) (tt_of 353 (by decide +kernel) rfl) (tt_of 354 (by decide +kernel) rfl) (tt_of 160 (by decide +kernel) rfl) (by rw [hz.2.1]; exact Nat.le_of_ble_eq_true rfl) (by rw [hz.2.1]; exact Nat.le_of_ble_eq_true rfl) dX11_init_165 ?_
  rw [nA24, show setI iA5 46 (fun _ => 0) = iA5 from zI_id rfl, show setL lE 46 (fun _ => 0) = lE from zL_id]
  refine am_dup hz1 dX11_init_168 rfl ?_
  refine am_aload_n hz1 dX11_init_169 0 rfl rfl ?_
  refine am_getR (r := 3) hz1 fl_X11_21 (show 0 < gN (gNew gA24 2 0) by decide +kernel) (show gK (gNew gA24 2 0) 0 = 11 by decide +kernel) (show gR (gNew gA24 2 0) 0 2 = some 3 by decide +kernel) rfl dX11_init_170 ?_
  refine am_callI (o := 46) hz1 ci_X11_81 [.ref ((zB z).size + 3)] [.ref ((zB z).size + 46), .ref ((zB z).size + 0)] (c_X2_init (G := gNew gA24 2 0) (p := 46) (q1 := 3) (show 46 < gN (gNew gA24 2 0) by decide +kernel) (show gK (gNew gA24 2 0) 46 = 2 by decide +kernel)) rfl rfl (hz.fr (d := 1) rfl) (hz.lo (d := 1) rfl) (by rw [hz.2.1]; exact ⟨Nat.le_of_ble_eq_true rfl, Nat.le_of_ble_eq_true rfl⟩) (Nat.le_of_ble_eq_true rfl) dX11_init_173 (fun ro24 G24 I24 L24 ⟨a1, a2, a3, a4⟩ => ?_)
  subst a1; subst a2; subst a3; subst a4
  rw [eI24, eL24]
  refine am_fold (G1 := gA25) rfl ?_
  refine am_putF hz1 hin2 cls_X11 (k := 9) (by decide) (tt_of 460 (by decide +kernel) rfl) rfl rfl (show 0 < gN gA25 by decide +kernel) (show gK gA25 0 = 11 by decide +kernel) (fun _ => rfl) (fun _ => rfl) (fun _ => rfl) dX11_init_176 ?_
  refine am_fold (G1 := gA26) rfl ?_
  refine am_aload_n hz1 dX11_init_179 0 rfl rfl ?_
  refine am_new hz1 cls_X7 (by decide) (tt_of 401 (by decide +kernel) rfl) (tt_of 402 (by decide +kernel) rfl) (tt_of 161 (by decide +kernel) rfl) (by rw [hz.2.1]; exact Nat.le_of_ble_eq_true rfl) (by rw [hz.2.1]; exact Nat.le_of_ble_eq_true rfl) dX11_init_180 ?_
  rw [nA26, show setI iA5 56 (fun _ => 0) = iA5 from zI_id rfl, show setL lE 56 (fun _ => 0) = lE from zL_id]
  refine am_dup hz1 dX11_init_183 rfl ?_
  refine am_aload_n hz1 dX11_init_184 0 rfl rfl ?_
  refine am_getR (r := 3) hz1 fl_X11_21 (show 0 < gN (gNew gA26 7 0) by decide +kernel) (show gK (gNew gA26 7 0) 0 = 11 by decide +kernel) (show gR (gNew gA26 7 0) 0 2 = some 3 by decide +kernel) rfl dX11_init_185 ?_
  refine am_callI (o := 56) hz1 ci_X11_88 [.ref ((zB z).size + 3)] [.ref ((zB z).size + 56), .ref ((zB z).size + 0)] (c_X7_init (G := gNew gA26 7 0) (p := 56) (q1 := 3) (show 56 < gN (gNew gA26 7 0) by decide +kernel) (show gK (gNew gA26 7 0) 56 = 7 by decide +kernel)) rfl rfl (hz.fr (d := 1) rfl) (hz.lo (d := 1) rfl) (by rw [hz.2.1]; exact ⟨Nat.le_of_ble_eq_true rfl, Nat.le_of_ble_eq_true rfl⟩) (Nat.le_of_ble_eq_true rfl) dX11_init_188 (fun ro26 G26 I26 L26 ⟨a1, a2, a3, a4⟩ => ?_)
  subst a1; subst a2; subst a3; subst a4
  rw [eI26, eL26]
  refine am_fold (G1 := gA27) rfl ?_
  refine am_putF hz1 hin2 cls_X11 (k := 10) (by decide) (tt_of 461 (by decide +kernel) rfl) rfl rfl (show 0 < gN gA27 by decide +kernel) (show gK gA27 0 = 11 by decide +kernel) (fun _ => rfl) (fun _ => rfl) (fun _ => rfl) dX11_init_191 ?_
  refine am_fold (G1 := gA28) rfl ?_
  refine am_aload_n hz1 dX11_init_194 0 rfl rfl ?_
  refine am_new hz1 cls_X1 (by decide) (tt_of 432 (by decide +kernel) rfl) (tt_of 433 (by decide +kernel) rfl) (tt_of 162 (by decide +kernel) rfl) (by rw [hz.2.1]; exact Nat.le_of_ble_eq_true rfl) (by rw [hz.2.1]; exact Nat.le_of_ble_eq_true rfl) dX11_init_195 ?_
  rw [nA28, show setI iA5 61 (fun _ => 0) = iA5 from zI_id rfl, show setL lE 61 (fun _ => 0) = lE from zL_id]
  refine am_dup hz1 dX11_init_198 rfl ?_
  refine am_callIN (o := 61) hz1 ci_X11_95 [] [.ref ((zB z).size + 61), .ref ((zB z).size + 0)] (c_X1_init (G := gNew gA28 1 0) (p := 61) (show 61 < gN (gNew gA28 1 0) by decide +kernel) (show gK (gNew gA28 1 0) 61 = 1 by decide +kernel)) rfl rfl (hz.fr (d := 1) rfl) (hz.lo (d := 1) rfl) (by rw [hz.2.1]; exact ⟨Nat.le_of_ble_eq_true rfl, Nat.le_of_ble_eq_true rfl⟩) (Nat.le_of_ble_eq_true rfl) dX11_init_199 (fun ro28 G28 I28 L28 ⟨a1, a2, a3, a4⟩ => ?_)
  subst a1; subst a2; subst a3; subst a4
  rw [eI28, eL28]
  refine am_fold (G1 := gA29) rfl ?_
  refine am_putF hz1 hin2 cls_X11 (k := 11) (by decide) (tt_of 462 (by decide +kernel) rfl) rfl rfl (show 0 < gN gA29 by decide +kernel) (show gK gA29 0 = 11 by decide +kernel) (fun _ => rfl) (fun _ => rfl) (fun _ => rfl) dX11_init_202 ?_
  refine am_fold (G1 := gA30) rfl ?_
  refine am_aload_n hz1 dX11_init_205 0 rfl rfl ?_
  refine am_bipush (v := 16) hz1 dX11_init_206 (by decide) ?_
  refine am_newL hz1 ac_long (N := 16) (by decide) (by decide) (by decide) (by rw [hz.2.1]; exact Nat.le_of_ble_eq_true rfl) (by rw [hz.2.1]; exact Nat.le_of_ble_eq_true rfl) dX11_init_208 ?_
  rw [nA30, show setI iA5 63 (fun _ => 0) = iA5 from zI_id rfl, show setL lE 63 (fun _ => 0) = lE from zL_id]
  refine am_fold (G1 := gA31) rfl ?_
  refine am_putF hz1 hin2 cls_X11 (k := 13) (by decide) (tt_of 464 (by decide +kernel) rfl) rfl rfl (show 0 < gN gA31 by decide +kernel) (show gK gA31 0 = 11 by decide +kernel) (fun _ => rfl) (fun _ => rfl) (fun _ => rfl) dX11_init_210 ?_
  refine am_fold (G1 := gA32) rfl ?_
  exact am_return hz dX11_init_213 ⟨rfl, rfl, rfl, rfl⟩
