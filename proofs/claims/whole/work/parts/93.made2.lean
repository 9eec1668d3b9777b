/-! THE REFERENCE IS MADE -/
def gM0 : amG := gNew gA32 12 0
theorem nM0 : gN gM0 = 65 := rfl
def gM1 : amG := gNew gM0 52 1074
theorem nM1 : gN gM1 = 66 := rfl
def gM2 : amG := gPut gM1 64 0 65
theorem nM2 : gN gM2 = 66 := rfl
def gM3 : amG := gNew gM2 52 8592
theorem nM3 : gN gM3 = 67 := rfl
def gM4 : amG := gPut gM3 64 1 66
theorem nM4 : gN gM4 = 67 := rfl
def gM5 : amG := gNew gM4 50 2
theorem nM5 : gN gM5 = 68 := rfl
def gM6 : amG := gPut gM5 64 3 67
theorem nM6 : gN gM6 = 68 := rfl
def gM7 : amG := gNew gM6 50 32
theorem nM7 : gN gM7 = 69 := rfl
def gM8 : amG := gPut gM7 64 4 68
theorem nM8 : gN gM8 = 69 := rfl
def gM9 : amG := gNew gM8 51 120
theorem nM9 : gN gM9 = 70 := rfl
def gM10 : amG := gPut gM9 64 6 69
theorem nM10 : gN gM10 = 70 := rfl
def gM11 : amG := gNew gM10 50 16
theorem nM11 : gN gM11 = 71 := rfl
def gM12 : amG := gPut gM11 64 13 70
theorem nM12 : gN gM12 = 71 := rfl
def gM13 : amG := gNew gM12 50 16
theorem nM13 : gN gM13 = 72 := rfl
def gM14 : amG := gPut gM13 64 14 71
theorem nM14 : gN gM14 = 72 := rfl
def gM15 : amG := gNew gM14 52 256
theorem nM15 : gN gM15 = 73 := rfl
def gM16 : amG := gPut gM15 64 16 72
theorem nM16 : gN gM16 = 73 := rfl
def gM17 : amG := gNew gM16 52 256
theorem nM17 : gN gM17 = 74 := rfl
def gM18 : amG := gPut gM17 64 17 73
theorem nM18 : gN gM18 = 74 := rfl
def gM19 : amG := gNew gM18 52 256
theorem nM19 : gN gM19 = 75 := rfl
def gM20 : amG := gPut gM19 64 18 74
theorem nM20 : gN gM20 = 75 := rfl
def gM21 : amG := gNew gM20 50 16
theorem nM21 : gN gM21 = 76 := rfl
def gM22 : amG := gPut gM21 64 19 75
theorem nM22 : gN gM22 = 76 := rfl
def gM23 : amG := gNew gM22 52 16
theorem nM23 : gN gM23 = 77 := rfl
def gM24 : amG := gPut gM23 64 20 76
theorem nM24 : gN gM24 = 77 := rfl
def gM25 : amG := gNew gM24 52 16
theorem nM25 : gN gM25 = 78 := rfl
def gM26 : amG := gPut gM25 64 21 77
theorem nM26 : gN gM26 = 78 := rfl
def gM27 : amG := gNew gM26 52 65536
theorem nM27 : gN gM27 = 79 := rfl
def gM28 : amG := gPut gM27 64 22 78
theorem nM28 : gN gM28 = 79 := rfl
def gM29 : amG := gNew gM28 50 16
theorem nM29 : gN gM29 = 80 := rfl
def gM30 : amG := gPut gM29 64 23 79
theorem nM30 : gN gM30 = 80 := rfl
def gM31 : amG := gNew gM30 50 256
theorem nM31 : gN gM31 = 81 := rfl
def gM32 : amG := gPut gM31 64 26 80
theorem nM32 : gN gM32 = 81 := rfl
def gM33 : amG := gNew gM32 50 256
theorem nM33 : gN gM33 = 82 := rfl
def gM34 : amG := gPut gM33 64 27 81
theorem nM34 : gN gM34 = 82 := rfl
def gM35 : amG := gNew gM34 50 16
theorem nM35 : gN gM35 = 83 := rfl
def gM36 : amG := gPut gM35 64 28 82
theorem nM36 : gN gM36 = 83 := rfl
def gM37 : amG := gNew gM36 50 16
theorem nM37 : gN gM37 = 84 := rfl
def gM38 : amG := gPut gM37 64 29 83
theorem nM38 : gN gM38 = 84 := rfl
def gM39 : amG := gNew gM38 52 16
theorem nM39 : gN gM39 = 85 := rfl
def gM40 : amG := gPut gM39 64 32 84
theorem nM40 : gN gM40 = 85 := rfl
theorem Lay_M : Lay gM40 := ⟨by decide +kernel, by decide +kernel, by decide +kernel, by decide +kernel⟩
def gMF : amG := gM40
def iMF : amI := (setI iA5 64 (upd (iA5 64) 24 0))
def lMF : amL := (setL (setL (setL lE 65 (vp_updL (lE 65) 0 1)) 65 (vp_updL ((setL lE 65 (vp_updL (lE 65) 0 1)) 65) 1 1)) 65 (m_clr ((setL (setL lE 65 (vp_updL (lE 65) 0 1)) 65 (vp_updL ((setL lE 65 (vp_updL (lE 65) 0 1)) 65) 1 1)) 65) (iA5 64 5)))
set_option maxRecDepth 100000 in
set_option maxHeartbeats 8000000 in
theorem c_X12_init {l : Launch} {D : va_G} {B : Heap} : Mx l D B yX12_init cX12_init 1 none 1 20 76780 [.ref (B.size + 64)] gM0 iA5 lE (fun r G1 I1 L1 => r = none ∧ G1 = gM40 ∧ I1 = iMF ∧ L1 = lMF) := by
  refine Mx.ofI (by decide) rfl rfl (fun z e1 e2 e3 hin2 hz => ?_)
  subst e1; subst e2; subst e3
  have hz1 := hz.1
  refine am_aload_n hz1 dX12_init_0 0 rfl rfl ?_
  refine am_oinit hz1 (tt_of 1286 (by decide +kernel) rfl) oi_m (tt_of 179 (by decide +kernel) rfl) (hz.fr (d := 0) rfl) (Nat.le_trans (Nat.le_of_ble_eq_true rfl) (hz.lo (d := 0) rfl)) dX12_init_1 ?_
  refine am_aload_n hz1 dX12_init_4 0 rfl rfl ?_
  refine am_sipush (v := 1074) hz1 dX12_init_5 (by decide) ?_
  refine am_newL hz1 ac_long (N := 1074) (by decide) (by decide) (by decide) (by rw [hz.2.1]; exact Nat.le_of_ble_eq_true rfl) (by rw [hz.2.1]; exact Nat.le_of_ble_eq_true rfl) dX12_init_8 ?_
  rw [nM0, show setI iA5 65 (fun _ => 0) = iA5 from zI_id rfl, show setL lE 65 (fun _ => 0) = lE from zL_id]
  refine am_fold (G1 := gM1) rfl ?_
  refine am_putF hz1 hin2 cls_X12 (k := 0) (by decide) (tt_of 1293 (by decide +kernel) rfl) rfl rfl (show 64 < gN gM1 by decide +kernel) (show gK gM1 64 = 12 by decide +kernel) (fun _ => rfl) (fun _ => rfl) (fun _ => rfl) dX12_init_10 ?_
  refine am_fold (G1 := gM2) rfl ?_
  refine am_aload_n hz1 dX12_init_13 0 rfl rfl ?_
  refine am_sipush (v := 8592) hz1 dX12_init_14 (by decide) ?_
  refine am_newL hz1 ac_long (N := 8592) (by decide) (by decide) (by decide) (by rw [hz.2.1]; exact Nat.le_of_ble_eq_true rfl) (by rw [hz.2.1]; exact Nat.le_of_ble_eq_true rfl) dX12_init_17 ?_
  rw [nM2, show setI iA5 66 (fun _ => 0) = iA5 from zI_id rfl, show setL lE 66 (fun _ => 0) = lE from zL_id]
  refine am_fold (G1 := gM3) rfl ?_
  refine am_putF hz1 hin2 cls_X12 (k := 1) (by decide) (tt_of 1294 (by decide +kernel) rfl) rfl rfl (show 64 < gN gM3 by decide +kernel) (show gK gM3 64 = 12 by decide +kernel) (fun _ => rfl) (fun _ => rfl) (fun _ => rfl) dX12_init_19 ?_
  refine am_fold (G1 := gM4) rfl ?_
  refine am_aload_n hz1 dX12_init_22 0 rfl rfl ?_
  refine am_iconst (v := 2) hz1 dX12_init_23 (by decide) ?_
  refine am_newI hz1 ac_int (N := 2) (by decide) (by decide) (by decide) (by rw [hz.2.1]; exact Nat.le_of_ble_eq_true rfl) (by rw [hz.2.1]; exact Nat.le_of_ble_eq_true rfl) dX12_init_24 ?_
  rw [nM4, show setI iA5 67 (fun _ => 0) = iA5 from zI_id rfl, show setL lE 67 (fun _ => 0) = lE from zL_id]
  refine am_fold (G1 := gM5) rfl ?_
  refine am_putF hz1 hin2 cls_X12 (k := 3) (by decide) (tt_of 1296 (by decide +kernel) rfl) rfl rfl (show 64 < gN gM5 by decide +kernel) (show gK gM5 64 = 12 by decide +kernel) (fun _ => rfl) (fun _ => rfl) (fun _ => rfl) dX12_init_26 ?_
  refine am_fold (G1 := gM6) rfl ?_
  refine am_aload_n hz1 dX12_init_29 0 rfl rfl ?_
  refine am_bipush (v := 32) hz1 dX12_init_30 (by decide) ?_
  refine am_newI hz1 ac_int (N := 32) (by decide) (by decide) (by decide) (by rw [hz.2.1]; exact Nat.le_of_ble_eq_true rfl) (by rw [hz.2.1]; exact Nat.le_of_ble_eq_true rfl) dX12_init_32 ?_
  rw [nM6, show setI iA5 68 (fun _ => 0) = iA5 from zI_id rfl, show setL lE 68 (fun _ => 0) = lE from zL_id]
  refine am_fold (G1 := gM7) rfl ?_
  refine am_putF hz1 hin2 cls_X12 (k := 4) (by decide) (tt_of 1297 (by decide +kernel) rfl) rfl rfl (show 64 < gN gM7 by decide +kernel) (show gK gM7 64 = 12 by decide +kernel) (fun _ => rfl) (fun _ => rfl) (fun _ => rfl) dX12_init_34 ?_
  refine am_fold (G1 := gM8) rfl ?_
  refine am_aload_n hz1 dX12_init_37 0 rfl rfl ?_
  refine am_bipush (v := 120) hz1 dX12_init_38 (by decide) ?_
  refine am_newB hz1 ac_byte (N := 120) (by decide) (by decide) (by decide) (by rw [hz.2.1]; exact Nat.le_of_ble_eq_true rfl) (by rw [hz.2.1]; exact Nat.le_of_ble_eq_true rfl) dX12_init_40 ?_
  rw [nM8, show setI iA5 69 (fun _ => 0) = iA5 from zI_id rfl, show setL lE 69 (fun _ => 0) = lE from zL_id]
  refine am_fold (G1 := gM9) rfl ?_
  refine am_putF hz1 hin2 cls_X12 (k := 6) (by decide) (tt_of 1299 (by decide +kernel) rfl) rfl rfl (show 64 < gN gM9 by decide +kernel) (show gK gM9 64 = 12 by decide +kernel) (fun _ => rfl) (fun _ => rfl) (fun _ => rfl) dX12_init_42 ?_
  refine am_fold (G1 := gM10) rfl ?_
  refine am_aload_n hz1 dX12_init_45 0 rfl rfl ?_
  refine am_bipush (v := 16) hz1 dX12_init_46 (by decide) ?_
  refine am_newI hz1 ac_int (N := 16) (by decide) (by decide) (by decide) (by rw [hz.2.1]; exact Nat.le_of_ble_eq_true rfl) (by rw [hz.2.1]; exact Nat.le_of_ble_eq_true rfl) dX12_init_48 ?_
  rw [nM10, show setI iA5 70 (fun _ => 0) = iA5 from zI_id rfl, show setL lE 70 (fun _ => 0) = lE from zL_id]
  refine am_fold (G1 := gM11) rfl ?_
  refine am_putF hz1 hin2 cls_X12 (k := 13) (by decide) (tt_of 1306 (by decide +kernel) rfl) rfl rfl (show 64 < gN gM11 by decide +kernel) (show gK gM11 64 = 12 by decide +kernel) (fun _ => rfl) (fun _ => rfl) (fun _ => rfl) dX12_init_50 ?_
  refine am_fold (G1 := gM12) rfl ?_
  refine am_aload_n hz1 dX12_init_53 0 rfl rfl ?_
  refine am_bipush (v := 16) hz1 dX12_init_54 (by decide) ?_
  refine am_newI hz1 ac_int (N := 16) (by decide) (by decide) (by decide) (by rw [hz.2.1]; exact Nat.le_of_ble_eq_true rfl) (by rw [hz.2.1]; exact Nat.le_of_ble_eq_true rfl) dX12_init_56 ?_
  rw [nM12, show setI iA5 71 (fun _ => 0) = iA5 from zI_id rfl, show setL lE 71 (fun _ => 0) = lE from zL_id]
  refine am_fold (G1 := gM13) rfl ?_
  refine am_putF hz1 hin2 cls_X12 (k := 14) (by decide) (tt_of 1307 (by decide +kernel) rfl) rfl rfl (show 64 < gN gM13 by decide +kernel) (show gK gM13 64 = 12 by decide +kernel) (fun _ => rfl) (fun _ => rfl) (fun _ => rfl) dX12_init_58 ?_
  refine am_fold (G1 := gM14) rfl ?_
  refine am_aload_n hz1 dX12_init_61 0 rfl rfl ?_
  refine am_sipush (v := 256) hz1 dX12_init_62 (by decide) ?_
  refine am_newL hz1 ac_long (N := 256) (by decide) (by decide) (by decide) (by rw [hz.2.1]; exact Nat.le_of_ble_eq_true rfl) (by rw [hz.2.1]; exact Nat.le_of_ble_eq_true rfl) dX12_init_65 ?_
  rw [nM14, show setI iA5 72 (fun _ => 0) = iA5 from zI_id rfl, show setL lE 72 (fun _ => 0) = lE from zL_id]
  refine am_fold (G1 := gM15) rfl ?_
  refine am_putF hz1 hin2 cls_X12 (k := 16) (by decide) (tt_of 1309 (by decide +kernel) rfl) rfl rfl (show 64 < gN gM15 by decide +kernel) (show gK gM15 64 = 12 by decide +kernel) (fun _ => rfl) (fun _ => rfl) (fun _ => rfl) dX12_init_67 ?_
  refine am_fold (G1 := gM16) rfl ?_
  refine am_aload_n hz1 dX12_init_70 0 rfl rfl ?_
  refine am_sipush (v := 256) hz1 dX12_init_71 (by decide) ?_
  refine am_newL hz1 ac_long (N := 256) (by decide) (by decide) (by decide) (by rw [hz.2.1]; exact Nat.le_of_ble_eq_true rfl) (by rw [hz.2.1]; exact Nat.le_of_ble_eq_true rfl) dX12_init_74 ?_
  rw [nM16, show setI iA5 73 (fun _ => 0) = iA5 from zI_id rfl, show setL lE 73 (fun _ => 0) = lE from zL_id]
  refine am_fold (G1 := gM17) rfl ?_
  refine am_putF hz1 hin2 cls_X12 (k := 17) (by decide) (tt_of 1310 (by decide +kernel) rfl) rfl rfl (show 64 < gN gM17 by decide +kernel) (show gK gM17 64 = 12 by decide +kernel) (fun _ => rfl) (fun _ => rfl) (fun _ => rfl) dX12_init_76 ?_
  refine am_fold (G1 := gM18) rfl ?_
  refine am_aload_n hz1 dX12_init_79 0 rfl rfl ?_
  refine am_sipush (v := 256) hz1 dX12_init_80 (by decide) ?_
  refine am_newL hz1 ac_long (N := 256) (by decide) (by decide) (by decide) (by rw [hz.2.1]; exact Nat.le_of_ble_eq_true rfl) (by rw [hz.2.1]; exact Nat.le_of_ble_eq_true rfl) dX12_init_83 ?_
  rw [nM18, show setI iA5 74 (fun _ => 0) = iA5 from zI_id rfl, show setL lE 74 (fun _ => 0) = lE from zL_id]
  refine am_fold (G1 := gM19) rfl ?_
  refine am_putF hz1 hin2 cls_X12 (k := 18) (by decide) (tt_of 1311 (by decide +kernel) rfl) rfl rfl (show 64 < gN gM19 by decide +kernel) (show gK gM19 64 = 12 by decide +kernel) (fun _ => rfl) (fun _ => rfl) (fun _ => rfl) dX12_init_85 ?_
  refine am_fold (G1 := gM20) rfl ?_
  refine am_aload_n hz1 dX12_init_88 0 rfl rfl ?_
  refine am_bipush (v := 16) hz1 dX12_init_89 (by decide) ?_
  refine am_newI hz1 ac_int (N := 16) (by decide) (by decide) (by decide) (by rw [hz.2.1]; exact Nat.le_of_ble_eq_true rfl) (by rw [hz.2.1]; exact Nat.le_of_ble_eq_true rfl) dX12_init_91 ?_
  rw [nM20, show setI iA5 75 (fun _ => 0) = iA5 from zI_id rfl, show setL lE 75 (fun _ => 0) = lE from zL_id]
  refine am_fold (G1 := gM21) rfl ?_
  refine am_putF hz1 hin2 cls_X12 (k := 19) (by decide) (tt_of 1312 (by decide +kernel) rfl) rfl rfl (show 64 < gN gM21 by decide +kernel) (show gK gM21 64 = 12 by decide +kernel) (fun _ => rfl) (fun _ => rfl) (fun _ => rfl) dX12_init_93 ?_
  refine am_fold (G1 := gM22) rfl ?_
  refine am_aload_n hz1 dX12_init_96 0 rfl rfl ?_
  refine am_bipush (v := 16) hz1 dX12_init_97 (by decide) ?_
  refine am_newL hz1 ac_long (N := 16) (by decide) (by decide) (by decide) (by rw [hz.2.1]; exact Nat.le_of_ble_eq_true rfl) (by rw [hz.2.1]; exact Nat.le_of_ble_eq_true rfl) dX12_init_99 ?_
  rw [nM22, show setI iA5 76 (fun _ => 0) = iA5 from zI_id rfl, show setL lE 76 (fun _ => 0) = lE from zL_id]
  refine am_fold (G1 := gM23) rfl ?_
  refine am_putF hz1 hin2 cls_X12 (k := 20) (by decide) (tt_of 1313 (by decide +kernel) rfl) rfl rfl (show 64 < gN gM23 by decide +kernel) (show gK gM23 64 = 12 by decide +kernel) (fun _ => rfl) (fun _ => rfl) (fun _ => rfl) dX12_init_101 ?_
  refine am_fold (G1 := gM24) rfl ?_
  refine am_aload_n hz1 dX12_init_104 0 rfl rfl ?_
  refine am_bipush (v := 16) hz1 dX12_init_105 (by decide) ?_
  refine am_newL hz1 ac_long (N := 16) (by decide) (by decide) (by decide) (by rw [hz.2.1]; exact Nat.le_of_ble_eq_true rfl) (by rw [hz.2.1]; exact Nat.le_of_ble_eq_true rfl) dX12_init_107 ?_
  rw [nM24, show setI iA5 77 (fun _ => 0) = iA5 from zI_id rfl, show setL lE 77 (fun _ => 0) = lE from zL_id]
  refine am_fold (G1 := gM25) rfl ?_
  refine am_putF hz1 hin2 cls_X12 (k := 21) (by decide) (tt_of 1314 (by decide +kernel) rfl) rfl rfl (show 64 < gN gM25 by decide +kernel) (show gK gM25 64 = 12 by decide +kernel) (fun _ => rfl) (fun _ => rfl) (fun _ => rfl) dX12_init_109 ?_
  refine am_fold (G1 := gM26) rfl ?_
  refine am_aload_n hz1 dX12_init_112 0 rfl rfl ?_
  refine am_ldc hz1 kc_X12_53 dX12_init_113 ?_
  refine am_newL hz1 ac_long (N := 65536) (by decide) (by decide) (by decide) (by rw [hz.2.1]; exact Nat.le_of_ble_eq_true rfl) (by rw [hz.2.1]; exact Nat.le_of_ble_eq_true rfl) dX12_init_115 ?_
  rw [nM26, show setI iA5 78 (fun _ => 0) = iA5 from zI_id rfl, show setL lE 78 (fun _ => 0) = lE from zL_id]
  refine am_fold (G1 := gM27) rfl ?_
  refine am_putF hz1 hin2 cls_X12 (k := 22) (by decide) (tt_of 1315 (by decide +kernel) rfl) rfl rfl (show 64 < gN gM27 by decide +kernel) (show gK gM27 64 = 12 by decide +kernel) (fun _ => rfl) (fun _ => rfl) (fun _ => rfl) dX12_init_117 ?_
  refine am_fold (G1 := gM28) rfl ?_
  refine am_aload_n hz1 dX12_init_120 0 rfl rfl ?_
  refine am_bipush (v := 16) hz1 dX12_init_121 (by decide) ?_
  refine am_newI hz1 ac_int (N := 16) (by decide) (by decide) (by decide) (by rw [hz.2.1]; exact Nat.le_of_ble_eq_true rfl) (by rw [hz.2.1]; exact Nat.le_of_ble_eq_true rfl) dX12_init_123 ?_
  rw [nM28, show setI iA5 79 (fun _ => 0) = iA5 from zI_id rfl, show setL lE 79 (fun _ => 0) = lE from zL_id]
  refine am_fold (G1 := gM29) rfl ?_
  refine am_putF hz1 hin2 cls_X12 (k := 23) (by decide) (tt_of 1316 (by decide +kernel) rfl) rfl rfl (show 64 < gN gM29 by decide +kernel) (show gK gM29 64 = 12 by decide +kernel) (fun _ => rfl) (fun _ => rfl) (fun _ => rfl) dX12_init_125 ?_
  refine am_fold (G1 := gM30) rfl ?_
  refine am_aload_n hz1 dX12_init_128 0 rfl rfl ?_
  refine am_sipush (v := 256) hz1 dX12_init_129 (by decide) ?_
  refine am_newI hz1 ac_int (N := 256) (by decide) (by decide) (by decide) (by rw [hz.2.1]; exact Nat.le_of_ble_eq_true rfl) (by rw [hz.2.1]; exact Nat.le_of_ble_eq_true rfl) dX12_init_132 ?_
  rw [nM30, show setI iA5 80 (fun _ => 0) = iA5 from zI_id rfl, show setL lE 80 (fun _ => 0) = lE from zL_id]
  refine am_fold (G1 := gM31) rfl ?_
  refine am_putF hz1 hin2 cls_X12 (k := 26) (by decide) (tt_of 1319 (by decide +kernel) rfl) rfl rfl (show 64 < gN gM31 by decide +kernel) (show gK gM31 64 = 12 by decide +kernel) (fun _ => rfl) (fun _ => rfl) (fun _ => rfl) dX12_init_134 ?_
  refine am_fold (G1 := gM32) rfl ?_
  refine am_aload_n hz1 dX12_init_137 0 rfl rfl ?_
  refine am_sipush (v := 256) hz1 dX12_init_138 (by decide) ?_
  refine am_newI hz1 ac_int (N := 256) (by decide) (by decide) (by decide) (by rw [hz.2.1]; exact Nat.le_of_ble_eq_true rfl) (by rw [hz.2.1]; exact Nat.le_of_ble_eq_true rfl) dX12_init_141 ?_
  rw [nM32, show setI iA5 81 (fun _ => 0) = iA5 from zI_id rfl, show setL lE 81 (fun _ => 0) = lE from zL_id]
  refine am_fold (G1 := gM33) rfl ?_
  refine am_putF hz1 hin2 cls_X12 (k := 27) (by decide) (tt_of 1320 (by decide +kernel) rfl) rfl rfl (show 64 < gN gM33 by decide +kernel) (show gK gM33 64 = 12 by decide +kernel) (fun _ => rfl) (fun _ => rfl) (fun _ => rfl) dX12_init_143 ?_
  refine am_fold (G1 := gM34) rfl ?_
  refine am_aload_n hz1 dX12_init_146 0 rfl rfl ?_
  refine am_bipush (v := 16) hz1 dX12_init_147 (by decide) ?_
  refine am_newI hz1 ac_int (N := 16) (by decide) (by decide) (by decide) (by rw [hz.2.1]; exact Nat.le_of_ble_eq_true rfl) (by rw [hz.2.1]; exact Nat.le_of_ble_eq_true rfl) dX12_init_149 ?_
  rw [nM34, show setI iA5 82 (fun _ => 0) = iA5 from zI_id rfl, show setL lE 82 (fun _ => 0) = lE from zL_id]
  refine am_fold (G1 := gM35) rfl ?_
  refine am_putF hz1 hin2 cls_X12 (k := 28) (by decide) (tt_of 1321 (by decide +kernel) rfl) rfl rfl (show 64 < gN gM35 by decide +kernel) (show gK gM35 64 = 12 by decide +kernel) (fun _ => rfl) (fun _ => rfl) (fun _ => rfl) dX12_init_151 ?_
  refine am_fold (G1 := gM36) rfl ?_
  refine am_aload_n hz1 dX12_init_154 0 rfl rfl ?_
  refine am_bipush (v := 16) hz1 dX12_init_155 (by decide) ?_
  refine am_newI hz1 ac_int (N := 16) (by decide) (by decide) (by decide) (by rw [hz.2.1]; exact Nat.le_of_ble_eq_true rfl) (by rw [hz.2.1]; exact Nat.le_of_ble_eq_true rfl) dX12_init_157 ?_
  rw [nM36, show setI iA5 83 (fun _ => 0) = iA5 from zI_id rfl, show setL lE 83 (fun _ => 0) = lE from zL_id]
  refine am_fold (G1 := gM37) rfl ?_
  refine am_putF hz1 hin2 cls_X12 (k := 29) (by decide) (tt_of 1322 (by decide +kernel) rfl) rfl rfl (show 64 < gN gM37 by decide +kernel) (show gK gM37 64 = 12 by decide +kernel) (fun _ => rfl) (fun _ => rfl) (fun _ => rfl) dX12_init_159 ?_
  refine am_fold (G1 := gM38) rfl ?_
  refine am_aload_n hz1 dX12_init_162 0 rfl rfl ?_
  refine am_bipush (v := 16) hz1 dX12_init_163 (by decide) ?_
  refine am_newL hz1 ac_long (N := 16) (by decide) (by decide) (by decide) (by rw [hz.2.1]; exact Nat.le_of_ble_eq_true rfl) (by rw [hz.2.1]; exact Nat.le_of_ble_eq_true rfl) dX12_init_165 ?_
  rw [nM38, show setI iA5 84 (fun _ => 0) = iA5 from zI_id rfl, show setL lE 84 (fun _ => 0) = lE from zL_id]
  refine am_fold (G1 := gM39) rfl ?_
  refine am_putF hz1 hin2 cls_X12 (k := 32) (by decide) (tt_of 1325 (by decide +kernel) rfl) rfl rfl (show 64 < gN gM39 by decide +kernel) (show gK gM39 64 = 12 by decide +kernel) (fun _ => rfl) (fun _ => rfl) (fun _ => rfl) dX12_init_167 ?_
  refine am_fold (G1 := gM40) rfl ?_
  refine am_aload_n hz1 dX12_init_170 0 rfl rfl ?_
  refine am_getR (r := 65) hz1 fl_X12_9 (ln_64 Lay_M) (lk_64 Lay_M) (lr_64_0 Lay_M) rfl dX12_init_171 ?_
  refine am_iconst (v := 0) hz1 dX12_init_174 (by decide) ?_
  refine am_lconst (v := 1) hz1 dX12_init_175 (by decide) ?_
  refine am_last hz1 (ln_65 Lay_M) (lk_65 Lay_M) (by rw [ll_65 Lay_M]; exact in_nI (n := 0) (by decide) (by decide)) dX12_init_176 ?_
  refine am_aload_n hz1 dX12_init_177 0 rfl rfl ?_
  refine am_getR (r := 65) hz1 fl_X12_9 (ln_64 Lay_M) (lk_64 Lay_M) (lr_64_0 Lay_M) rfl dX12_init_178 ?_
  refine am_iconst (v := 1) hz1 dX12_init_181 (by decide) ?_
  refine am_lconst (v := 1) hz1 dX12_init_182 (by decide) ?_
  refine am_last hz1 (ln_65 Lay_M) (lk_65 Lay_M) (by rw [ll_65 Lay_M]; exact in_nI (n := 1) (by decide) (by decide)) dX12_init_183 ?_
  refine am_aload_n hz1 dX12_init_184 0 rfl rfl ?_
  refine am_cVf hz cv_X12_75 [] [] (c_X12_clears Lay_M) (ln_64 Lay_M) (lk_64 Lay_M) rfl rfl rfl ⟨Nat.le_of_ble_eq_true rfl, Nat.le_of_ble_eq_true rfl⟩ (Nat.le_of_ble_eq_true rfl) dX12_init_185 ?_
  exact am_return hz dX12_init_188 ⟨rfl, rfl, rfl, rfl⟩
