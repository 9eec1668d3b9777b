theorem cls_at {C : String} {T : u_T} {N : Nat} (ps : List Nat) (h : (List.range N).map (fun k => some (u_lay C T k)) = ps.map (fun i => lw_tbl[i]?)) (g : ((List.range N).map (u_lay C T)).all goodWord = true) : ∀ w ∈ u_ws C T N, w ∈ TT := by
  intro w hw
  have g1 : goodWord w = true := List.all_eq_true.mp g w hw
  obtain ⟨k, hk, e⟩ := List.mem_map.mp hw
  have h1 : some w ∈ (List.range N).map (fun k => some (u_lay C T k)) := List.mem_map.mpr ⟨k, hk, by rw [e]⟩
  rw [h] at h1
  obtain ⟨i, -, hi⟩ := List.mem_map.mp h1
  exact tt_of i hi g1
theorem cls_X0 : CLs 0 RX0 TX0 := ⟨by decide, rfl, cls_at [303, 305, 307, 309, 311, 313] (by decide +kernel) (by decide +kernel), tyX0_ok, nmX0⟩
theorem cls_X1 : CLs 1 RX1 TX1 := ⟨by decide, rfl, cls_at [444, 446, 448] (by decide +kernel) (by decide +kernel), tyX1_ok, nmX1⟩
theorem cls_X2 : CLs 2 RX2 TX2 := ⟨by decide, rfl, cls_at [374, 376, 378, 380, 382, 384, 386, 388, 390, 392, 394, 396, 398] (by decide +kernel) (by decide +kernel), tyX2_ok, nmX2⟩
theorem cls_X3 : CLs 3 RX3 TX3 := ⟨by decide, rfl, cls_at [330, 332, 334] (by decide +kernel) (by decide +kernel), tyX3_ok, nmX3⟩
theorem cls_X4 : CLs 4 RX4 TX4 := ⟨by decide, rfl, cls_at [231, 233, 235, 237, 239, 241, 243] (by decide +kernel) (by decide +kernel), tyX4_ok, nmX4⟩
theorem cls_X5 : CLs 5 RX5 TX5 := ⟨by decide, rfl, cls_at [346, 348, 350] (by decide +kernel) (by decide +kernel), tyX5_ok, nmX5⟩
theorem cls_X6 : CLs 6 RX6 TX6 := ⟨by decide, rfl, cls_at [259, 261, 263, 265, 267, 269] (by decide +kernel) (by decide +kernel), tyX6_ok, nmX6⟩
theorem cls_X7 : CLs 7 RX7 TX7 := ⟨by decide, rfl, cls_at [415, 417, 419, 421, 423, 425, 427, 429] (by decide +kernel) (by decide +kernel), tyX7_ok, nmX7⟩
theorem cls_X8 : CLs 8 RX8 TX8 := ⟨by decide, rfl, cls_at [716, 718, 720, 722, 724, 726] (by decide +kernel) (by decide +kernel), tyX8_ok, nmX8⟩
theorem cls_X9 : CLs 9 RX9 TX9 := ⟨by decide, rfl, cls_at [285, 287] (by decide +kernel) (by decide +kernel), tyX9_ok, nmX9⟩
theorem cls_X10 : CLs 10 RX10 TX10 := ⟨by decide, rfl, cls_at [190, 192] (by decide +kernel) (by decide +kernel), tyX10_ok, nmX10⟩
theorem cls_X11 : CLs 11 RX11 TX11 := ⟨by decide, rfl, cls_at [467, 469, 471, 473, 475, 477, 479, 481, 483, 485, 487, 489, 491, 493, 495, 497] (by decide +kernel) (by decide +kernel), tyX11_ok, nmX11⟩
theorem cls_X12 : CLs 12 RX12 TX12 := ⟨by decide, rfl, cls_at [1326, 1328, 1330, 1332, 1334, 1336, 1338, 1340, 1342, 1344, 1346, 1348, 1350, 1352, 1354, 1356, 1358, 1360, 1362, 1364, 1366, 1368, 1370, 1372, 1374, 1376, 1378, 1380, 1382, 1384, 1386, 1388, 1390] (by decide +kernel) (by decide +kernel), tyX12_ok, nmX12⟩
theorem fl_X10_9 : FL RX10 9 10 0 true := ⟨by decide, RX10, TX10, cls_X10, tt_of 186 (by decide +kernel) rfl, rfl⟩
theorem fl_X11_103 : FL RX11 103 10 1 false := ⟨by decide, RX10, TX10, cls_X10, tt_of 187 (by decide +kernel) rfl, rfl⟩
theorem fl_X10_15 : FL RX10 15 10 1 false := ⟨by decide, RX10, TX10, cls_X10, tt_of 188 (by decide +kernel) rfl, rfl⟩
theorem fl_X6_51 : FL RX6 51 10 1 false := ⟨by decide, RX10, TX10, cls_X10, tt_of 189 (by decide +kernel) rfl, rfl⟩
theorem fl_X4_9 : FL RX4 9 4 0 false := ⟨by decide, RX4, TX4, cls_X4, tt_of 202 (by decide +kernel) rfl, rfl⟩
theorem fl_X5_28 : FL RX5 28 4 0 false := ⟨by decide, RX4, TX4, cls_X4, tt_of 203 (by decide +kernel) rfl, rfl⟩
theorem fl_X3_28 : FL RX3 28 4 0 false := ⟨by decide, RX4, TX4, cls_X4, tt_of 204 (by decide +kernel) rfl, rfl⟩
theorem fl_X7_36 : FL RX7 36 4 0 false := ⟨by decide, RX4, TX4, cls_X4, tt_of 205 (by decide +kernel) rfl, rfl⟩
theorem fl_X11_129 : FL RX11 129 4 0 false := ⟨by decide, RX4, TX4, cls_X4, tt_of 206 (by decide +kernel) rfl, rfl⟩
theorem fl_X0_48 : FL RX0 48 4 0 false := ⟨by decide, RX4, TX4, cls_X4, tt_of 207 (by decide +kernel) rfl, rfl⟩
theorem fl_X2_60 : FL RX2 60 4 0 false := ⟨by decide, RX4, TX4, cls_X4, tt_of 208 (by decide +kernel) rfl, rfl⟩
theorem fl_X4_15 : FL RX4 15 4 1 true := ⟨by decide, RX4, TX4, cls_X4, tt_of 209 (by decide +kernel) rfl, rfl⟩
theorem fl_X11_130 : FL RX11 130 4 1 true := ⟨by decide, RX4, TX4, cls_X4, tt_of 210 (by decide +kernel) rfl, rfl⟩
theorem fl_X7_79 : FL RX7 79 4 1 true := ⟨by decide, RX4, TX4, cls_X4, tt_of 211 (by decide +kernel) rfl, rfl⟩
theorem fl_X2_87 : FL RX2 87 4 1 true := ⟨by decide, RX4, TX4, cls_X4, tt_of 212 (by decide +kernel) rfl, rfl⟩
theorem fl_X0_123 : FL RX0 123 4 1 true := ⟨by decide, RX4, TX4, cls_X4, tt_of 213 (by decide +kernel) rfl, rfl⟩
theorem fl_X6_148 : FL RX6 148 4 1 true := ⟨by decide, RX4, TX4, cls_X4, tt_of 214 (by decide +kernel) rfl, rfl⟩
theorem fl_X4_19 : FL RX4 19 4 2 true := ⟨by decide, RX4, TX4, cls_X4, tt_of 215 (by decide +kernel) rfl, rfl⟩
theorem fl_X5_44 : FL RX5 44 4 2 true := ⟨by decide, RX4, TX4, cls_X4, tt_of 216 (by decide +kernel) rfl, rfl⟩
theorem fl_X7_82 : FL RX7 82 4 2 true := ⟨by decide, RX4, TX4, cls_X4, tt_of 217 (by decide +kernel) rfl, rfl⟩
theorem fl_X2_78 : FL RX2 78 4 2 true := ⟨by decide, RX4, TX4, cls_X4, tt_of 218 (by decide +kernel) rfl, rfl⟩
theorem fl_X11_315 : FL RX11 315 4 2 true := ⟨by decide, RX4, TX4, cls_X4, tt_of 219 (by decide +kernel) rfl, rfl⟩
theorem fl_X4_22 : FL RX4 22 4 3 true := ⟨by decide, RX4, TX4, cls_X4, tt_of 220 (by decide +kernel) rfl, rfl⟩
theorem fl_X11_142 : FL RX11 142 4 3 true := ⟨by decide, RX4, TX4, cls_X4, tt_of 221 (by decide +kernel) rfl, rfl⟩
theorem fl_X5_56 : FL RX5 56 4 3 true := ⟨by decide, RX4, TX4, cls_X4, tt_of 222 (by decide +kernel) rfl, rfl⟩
theorem fl_X0_66 : FL RX0 66 4 3 true := ⟨by decide, RX4, TX4, cls_X4, tt_of 223 (by decide +kernel) rfl, rfl⟩
theorem fl_X4_25 : FL RX4 25 4 4 true := ⟨by decide, RX4, TX4, cls_X4, tt_of 224 (by decide +kernel) rfl, rfl⟩
theorem fl_X11_290 : FL RX11 290 4 4 true := ⟨by decide, RX4, TX4, cls_X4, tt_of 225 (by decide +kernel) rfl, rfl⟩
theorem fl_X4_28 : FL RX4 28 4 5 true := ⟨by decide, RX4, TX4, cls_X4, tt_of 226 (by decide +kernel) rfl, rfl⟩
theorem fl_X11_293 : FL RX11 293 4 5 true := ⟨by decide, RX4, TX4, cls_X4, tt_of 227 (by decide +kernel) rfl, rfl⟩
theorem fl_X4_31 : FL RX4 31 4 6 true := ⟨by decide, RX4, TX4, cls_X4, tt_of 228 (by decide +kernel) rfl, rfl⟩
theorem fl_X2_96 : FL RX2 96 4 6 true := ⟨by decide, RX4, TX4, cls_X4, tt_of 229 (by decide +kernel) rfl, rfl⟩
theorem fl_X0_114 : FL RX0 114 4 6 true := ⟨by decide, RX4, TX4, cls_X4, tt_of 230 (by decide +kernel) rfl, rfl⟩
theorem fl_X6_15 : FL RX6 15 6 0 true := ⟨by decide, RX6, TX6, cls_X6, tt_of 253 (by decide +kernel) rfl, rfl⟩
theorem fl_X6_19 : FL RX6 19 6 1 true := ⟨by decide, RX6, TX6, cls_X6, tt_of 254 (by decide +kernel) rfl, rfl⟩
theorem fl_X6_9 : FL RX6 9 6 2 true := ⟨by decide, RX6, TX6, cls_X6, tt_of 255 (by decide +kernel) rfl, rfl⟩
theorem fl_X6_23 : FL RX6 23 6 3 false := ⟨by decide, RX6, TX6, cls_X6, tt_of 256 (by decide +kernel) rfl, rfl⟩
theorem fl_X6_41 : FL RX6 41 6 4 false := ⟨by decide, RX6, TX6, cls_X6, tt_of 257 (by decide +kernel) rfl, rfl⟩
theorem fl_X6_27 : FL RX6 27 6 5 false := ⟨by decide, RX6, TX6, cls_X6, tt_of 258 (by decide +kernel) rfl, rfl⟩
theorem fl_X9_7 : FL RX9 7 9 0 false := ⟨by decide, RX9, TX9, cls_X9, tt_of 279 (by decide +kernel) rfl, rfl⟩
theorem fl_X0_80 : FL RX0 80 9 0 false := ⟨by decide, RX9, TX9, cls_X9, tt_of 280 (by decide +kernel) rfl, rfl⟩
theorem fl_X11_389 : FL RX11 389 9 0 false := ⟨by decide, RX9, TX9, cls_X9, tt_of 281 (by decide +kernel) rfl, rfl⟩
theorem fl_X9_13 : FL RX9 13 9 1 false := ⟨by decide, RX9, TX9, cls_X9, tt_of 282 (by decide +kernel) rfl, rfl⟩
theorem fl_X0_104 : FL RX0 104 9 1 false := ⟨by decide, RX9, TX9, cls_X9, tt_of 283 (by decide +kernel) rfl, rfl⟩
theorem fl_X11_265 : FL RX11 265 9 1 false := ⟨by decide, RX9, TX9, cls_X9, tt_of 284 (by decide +kernel) rfl, rfl⟩
theorem fl_X0_9 : FL RX0 9 0 0 true := ⟨by decide, RX0, TX0, cls_X0, tt_of 296 (by decide +kernel) rfl, rfl⟩
theorem fl_X11_220 : FL RX11 220 0 0 true := ⟨by decide, RX0, TX0, cls_X0, tt_of 297 (by decide +kernel) rfl, rfl⟩
theorem fl_X0_15 : FL RX0 15 0 1 true := ⟨by decide, RX0, TX0, cls_X0, tt_of 298 (by decide +kernel) rfl, rfl⟩
theorem fl_X0_18 : FL RX0 18 0 2 true := ⟨by decide, RX0, TX0, cls_X0, tt_of 299 (by decide +kernel) rfl, rfl⟩
theorem fl_X0_21 : FL RX0 21 0 3 true := ⟨by decide, RX0, TX0, cls_X0, tt_of 300 (by decide +kernel) rfl, rfl⟩
theorem fl_X0_24 : FL RX0 24 0 4 true := ⟨by decide, RX0, TX0, cls_X0, tt_of 301 (by decide +kernel) rfl, rfl⟩
theorem fl_X0_28 : FL RX0 28 0 5 true := ⟨by decide, RX0, TX0, cls_X0, tt_of 302 (by decide +kernel) rfl, rfl⟩
theorem fl_X3_9 : FL RX3 9 3 0 true := ⟨by decide, RX3, TX3, cls_X3, tt_of 326 (by decide +kernel) rfl, rfl⟩
theorem fl_X11_225 : FL RX11 225 3 0 true := ⟨by decide, RX3, TX3, cls_X3, tt_of 327 (by decide +kernel) rfl, rfl⟩
theorem fl_X3_15 : FL RX3 15 3 1 true := ⟨by decide, RX3, TX3, cls_X3, tt_of 328 (by decide +kernel) rfl, rfl⟩
theorem fl_X3_19 : FL RX3 19 3 2 true := ⟨by decide, RX3, TX3, cls_X3, tt_of 329 (by decide +kernel) rfl, rfl⟩
theorem fl_X5_18 : FL RX5 18 5 0 true := ⟨by decide, RX5, TX5, cls_X5, tt_of 343 (by decide +kernel) rfl, rfl⟩
theorem fl_X5_9 : FL RX5 9 5 1 true := ⟨by decide, RX5, TX5, cls_X5, tt_of 344 (by decide +kernel) rfl, rfl⟩
theorem fl_X5_15 : FL RX5 15 5 2 true := ⟨by decide, RX5, TX5, cls_X5, tt_of 345 (by decide +kernel) rfl, rfl⟩
theorem fl_X2_9 : FL RX2 9 2 0 true := ⟨by decide, RX2, TX2, cls_X2, tt_of 359 (by decide +kernel) rfl, rfl⟩
theorem fl_X11_379 : FL RX11 379 2 0 true := ⟨by decide, RX2, TX2, cls_X2, tt_of 360 (by decide +kernel) rfl, rfl⟩
theorem fl_X2_15 : FL RX2 15 2 1 true := ⟨by decide, RX2, TX2, cls_X2, tt_of 361 (by decide +kernel) rfl, rfl⟩
theorem fl_X11_382 : FL RX11 382 2 1 true := ⟨by decide, RX2, TX2, cls_X2, tt_of 362 (by decide +kernel) rfl, rfl⟩
theorem fl_X2_39 : FL RX2 39 2 2 true := ⟨by decide, RX2, TX2, cls_X2, tt_of 363 (by decide +kernel) rfl, rfl⟩
theorem fl_X2_18 : FL RX2 18 2 3 true := ⟨by decide, RX2, TX2, cls_X2, tt_of 364 (by decide +kernel) rfl, rfl⟩
theorem fl_X2_21 : FL RX2 21 2 4 true := ⟨by decide, RX2, TX2, cls_X2, tt_of 365 (by decide +kernel) rfl, rfl⟩
theorem fl_X2_24 : FL RX2 24 2 5 true := ⟨by decide, RX2, TX2, cls_X2, tt_of 366 (by decide +kernel) rfl, rfl⟩
theorem fl_X2_27 : FL RX2 27 2 6 true := ⟨by decide, RX2, TX2, cls_X2, tt_of 367 (by decide +kernel) rfl, rfl⟩
theorem fl_X2_30 : FL RX2 30 2 7 true := ⟨by decide, RX2, TX2, cls_X2, tt_of 368 (by decide +kernel) rfl, rfl⟩
theorem fl_X2_33 : FL RX2 33 2 8 true := ⟨by decide, RX2, TX2, cls_X2, tt_of 369 (by decide +kernel) rfl, rfl⟩
theorem fl_X2_36 : FL RX2 36 2 9 true := ⟨by decide, RX2, TX2, cls_X2, tt_of 370 (by decide +kernel) rfl, rfl⟩
theorem fl_X2_93 : FL RX2 93 2 10 false := ⟨by decide, RX2, TX2, cls_X2, tt_of 371 (by decide +kernel) rfl, rfl⟩
theorem fl_X2_50 : FL RX2 50 2 11 false := ⟨by decide, RX2, TX2, cls_X2, tt_of 372 (by decide +kernel) rfl, rfl⟩
theorem fl_X2_43 : FL RX2 43 2 12 false := ⟨by decide, RX2, TX2, cls_X2, tt_of 373 (by decide +kernel) rfl, rfl⟩
theorem fl_X7_25 : FL RX7 25 7 0 true := ⟨by decide, RX7, TX7, cls_X7, tt_of 407 (by decide +kernel) rfl, rfl⟩
theorem fl_X7_9 : FL RX7 9 7 1 true := ⟨by decide, RX7, TX7, cls_X7, tt_of 408 (by decide +kernel) rfl, rfl⟩
theorem fl_X7_15 : FL RX7 15 7 2 true := ⟨by decide, RX7, TX7, cls_X7, tt_of 409 (by decide +kernel) rfl, rfl⟩
theorem fl_X7_18 : FL RX7 18 7 3 true := ⟨by decide, RX7, TX7, cls_X7, tt_of 410 (by decide +kernel) rfl, rfl⟩
theorem fl_X7_22 : FL RX7 22 7 4 false := ⟨by decide, RX7, TX7, cls_X7, tt_of 411 (by decide +kernel) rfl, rfl⟩
theorem fl_X7_29 : FL RX7 29 7 5 false := ⟨by decide, RX7, TX7, cls_X7, tt_of 412 (by decide +kernel) rfl, rfl⟩
theorem fl_X7_33 : FL RX7 33 7 6 false := ⟨by decide, RX7, TX7, cls_X7, tt_of 413 (by decide +kernel) rfl, rfl⟩
theorem fl_X7_101 : FL RX7 101 7 7 false := ⟨by decide, RX7, TX7, cls_X7, tt_of 414 (by decide +kernel) rfl, rfl⟩
theorem fl_X1_11 : FL RX1 11 1 0 true := ⟨by decide, RX1, TX1, cls_X1, tt_of 440 (by decide +kernel) rfl, rfl⟩
theorem fl_X1_17 : FL RX1 17 1 1 false := ⟨by decide, RX1, TX1, cls_X1, tt_of 441 (by decide +kernel) rfl, rfl⟩
theorem fl_X1_22 : FL RX1 22 1 2 false := ⟨by decide, RX1, TX1, cls_X1, tt_of 442 (by decide +kernel) rfl, rfl⟩
theorem fl_X11_236 : FL RX11 236 1 2 false := ⟨by decide, RX1, TX1, cls_X1, tt_of 443 (by decide +kernel) rfl, rfl⟩
theorem fl_X11_14 : FL RX11 14 11 0 true := ⟨by decide, RX11, TX11, cls_X11, tt_of 451 (by decide +kernel) rfl, rfl⟩
theorem fl_X11_33 : FL RX11 33 11 1 true := ⟨by decide, RX11, TX11, cls_X11, tt_of 452 (by decide +kernel) rfl, rfl⟩
theorem fl_X11_21 : FL RX11 21 11 2 true := ⟨by decide, RX11, TX11, cls_X11, tt_of 453 (by decide +kernel) rfl, rfl⟩
theorem fl_X11_25 : FL RX11 25 11 3 true := ⟨by decide, RX11, TX11, cls_X11, tt_of 454 (by decide +kernel) rfl, rfl⟩
theorem fl_X11_37 : FL RX11 37 11 4 true := ⟨by decide, RX11, TX11, cls_X11, tt_of 455 (by decide +kernel) rfl, rfl⟩
theorem fl_X11_53 : FL RX11 53 11 5 true := ⟨by decide, RX11, TX11, cls_X11, tt_of 456 (by decide +kernel) rfl, rfl⟩
theorem fl_X11_57 : FL RX11 57 11 6 true := ⟨by decide, RX11, TX11, cls_X11, tt_of 457 (by decide +kernel) rfl, rfl⟩
theorem fl_X11_66 : FL RX11 66 11 7 true := ⟨by decide, RX11, TX11, cls_X11, tt_of 458 (by decide +kernel) rfl, rfl⟩
theorem fl_X11_75 : FL RX11 75 11 8 true := ⟨by decide, RX11, TX11, cls_X11, tt_of 459 (by decide +kernel) rfl, rfl⟩
theorem fl_X11_82 : FL RX11 82 11 9 true := ⟨by decide, RX11, TX11, cls_X11, tt_of 460 (by decide +kernel) rfl, rfl⟩
theorem fl_X11_89 : FL RX11 89 11 10 true := ⟨by decide, RX11, TX11, cls_X11, tt_of 461 (by decide +kernel) rfl, rfl⟩
theorem fl_X11_96 : FL RX11 96 11 11 true := ⟨by decide, RX11, TX11, cls_X11, tt_of 462 (by decide +kernel) rfl, rfl⟩
theorem fl_X11_44 : FL RX11 44 11 12 true := ⟨by decide, RX11, TX11, cls_X11, tt_of 463 (by decide +kernel) rfl, rfl⟩
theorem fl_X11_100 : FL RX11 100 11 13 true := ⟨by decide, RX11, TX11, cls_X11, tt_of 464 (by decide +kernel) rfl, rfl⟩
theorem fl_X11_179 : FL RX11 179 11 14 false := ⟨by decide, RX11, TX11, cls_X11, tt_of 465 (by decide +kernel) rfl, rfl⟩
theorem fl_X11_185 : FL RX11 185 11 15 false := ⟨by decide, RX11, TX11, cls_X11, tt_of 466 (by decide +kernel) rfl, rfl⟩
theorem fl_X11_209 : FL RX11 209 8 0 false := ⟨by decide, RX8, TX8, cls_X8, tt_of 706 (by decide +kernel) rfl, rfl⟩
theorem fl_X11_212 : FL RX11 212 8 1 false := ⟨by decide, RX8, TX8, cls_X8, tt_of 707 (by decide +kernel) rfl, rfl⟩
theorem fl_X8_9 : FL RX8 9 8 2 true := ⟨by decide, RX8, TX8, cls_X8, tt_of 708 (by decide +kernel) rfl, rfl⟩
theorem fl_X11_213 : FL RX11 213 8 2 true := ⟨by decide, RX8, TX8, cls_X8, tt_of 709 (by decide +kernel) rfl, rfl⟩
theorem fl_X8_15 : FL RX8 15 8 3 true := ⟨by decide, RX8, TX8, cls_X8, tt_of 710 (by decide +kernel) rfl, rfl⟩
theorem fl_X11_223 : FL RX11 223 8 3 true := ⟨by decide, RX8, TX8, cls_X8, tt_of 711 (by decide +kernel) rfl, rfl⟩
theorem fl_X8_19 : FL RX8 19 8 4 true := ⟨by decide, RX8, TX8, cls_X8, tt_of 712 (by decide +kernel) rfl, rfl⟩
theorem fl_X11_224 : FL RX11 224 8 4 true := ⟨by decide, RX8, TX8, cls_X8, tt_of 713 (by decide +kernel) rfl, rfl⟩
theorem fl_X8_22 : FL RX8 22 8 5 true := ⟨by decide, RX8, TX8, cls_X8, tt_of 714 (by decide +kernel) rfl, rfl⟩
theorem fl_X11_228 : FL RX11 228 8 5 true := ⟨by decide, RX8, TX8, cls_X8, tt_of 715 (by decide +kernel) rfl, rfl⟩
theorem fl_X12_9 : FL RX12 9 12 0 true := ⟨by decide, RX12, TX12, cls_X12, tt_of 1293 (by decide +kernel) rfl, rfl⟩
theorem fl_X12_15 : FL RX12 15 12 1 true := ⟨by decide, RX12, TX12, cls_X12, tt_of 1294 (by decide +kernel) rfl, rfl⟩
theorem fl_X12_124 : FL RX12 124 12 2 false := ⟨by decide, RX12, TX12, cls_X12, tt_of 1295 (by decide +kernel) rfl, rfl⟩
theorem fl_X12_18 : FL RX12 18 12 3 true := ⟨by decide, RX12, TX12, cls_X12, tt_of 1296 (by decide +kernel) rfl, rfl⟩
theorem fl_X12_22 : FL RX12 22 12 4 true := ⟨by decide, RX12, TX12, cls_X12, tt_of 1297 (by decide +kernel) rfl, rfl⟩
theorem fl_X12_120 : FL RX12 120 12 5 false := ⟨by decide, RX12, TX12, cls_X12, tt_of 1298 (by decide +kernel) rfl, rfl⟩
theorem fl_X12_25 : FL RX12 25 12 6 true := ⟨by decide, RX12, TX12, cls_X12, tt_of 1299 (by decide +kernel) rfl, rfl⟩
theorem fl_X12_130 : FL RX12 130 12 7 false := ⟨by decide, RX12, TX12, cls_X12, tt_of 1300 (by decide +kernel) rfl, rfl⟩
theorem fl_X12_133 : FL RX12 133 12 8 false := ⟨by decide, RX12, TX12, cls_X12, tt_of 1301 (by decide +kernel) rfl, rfl⟩
theorem fl_X12_139 : FL RX12 139 12 9 false := ⟨by decide, RX12, TX12, cls_X12, tt_of 1302 (by decide +kernel) rfl, rfl⟩
theorem fl_X12_167 : FL RX12 167 12 10 false := ⟨by decide, RX12, TX12, cls_X12, tt_of 1303 (by decide +kernel) rfl, rfl⟩
theorem fl_X12_157 : FL RX12 157 12 11 false := ⟨by decide, RX12, TX12, cls_X12, tt_of 1304 (by decide +kernel) rfl, rfl⟩
theorem fl_X12_170 : FL RX12 170 12 12 false := ⟨by decide, RX12, TX12, cls_X12, tt_of 1305 (by decide +kernel) rfl, rfl⟩
theorem fl_X12_29 : FL RX12 29 12 13 true := ⟨by decide, RX12, TX12, cls_X12, tt_of 1306 (by decide +kernel) rfl, rfl⟩
theorem fl_X12_32 : FL RX12 32 12 14 true := ⟨by decide, RX12, TX12, cls_X12, tt_of 1307 (by decide +kernel) rfl, rfl⟩
theorem fl_X12_271 : FL RX12 271 12 15 false := ⟨by decide, RX12, TX12, cls_X12, tt_of 1308 (by decide +kernel) rfl, rfl⟩
theorem fl_X12_35 : FL RX12 35 12 16 true := ⟨by decide, RX12, TX12, cls_X12, tt_of 1309 (by decide +kernel) rfl, rfl⟩
theorem fl_X12_38 : FL RX12 38 12 17 true := ⟨by decide, RX12, TX12, cls_X12, tt_of 1310 (by decide +kernel) rfl, rfl⟩
theorem fl_X12_41 : FL RX12 41 12 18 true := ⟨by decide, RX12, TX12, cls_X12, tt_of 1311 (by decide +kernel) rfl, rfl⟩
theorem fl_X12_44 : FL RX12 44 12 19 true := ⟨by decide, RX12, TX12, cls_X12, tt_of 1312 (by decide +kernel) rfl, rfl⟩
theorem fl_X12_47 : FL RX12 47 12 20 true := ⟨by decide, RX12, TX12, cls_X12, tt_of 1313 (by decide +kernel) rfl, rfl⟩
theorem fl_X12_50 : FL RX12 50 12 21 true := ⟨by decide, RX12, TX12, cls_X12, tt_of 1314 (by decide +kernel) rfl, rfl⟩
theorem fl_X12_54 : FL RX12 54 12 22 true := ⟨by decide, RX12, TX12, cls_X12, tt_of 1315 (by decide +kernel) rfl, rfl⟩
theorem fl_X12_57 : FL RX12 57 12 23 true := ⟨by decide, RX12, TX12, cls_X12, tt_of 1316 (by decide +kernel) rfl, rfl⟩
theorem fl_X12_114 : FL RX12 114 12 24 false := ⟨by decide, RX12, TX12, cls_X12, tt_of 1317 (by decide +kernel) rfl, rfl⟩
theorem fl_X12_434 : FL RX12 434 12 25 false := ⟨by decide, RX12, TX12, cls_X12, tt_of 1318 (by decide +kernel) rfl, rfl⟩
theorem fl_X12_60 : FL RX12 60 12 26 true := ⟨by decide, RX12, TX12, cls_X12, tt_of 1319 (by decide +kernel) rfl, rfl⟩
theorem fl_X12_63 : FL RX12 63 12 27 true := ⟨by decide, RX12, TX12, cls_X12, tt_of 1320 (by decide +kernel) rfl, rfl⟩
theorem fl_X12_66 : FL RX12 66 12 28 true := ⟨by decide, RX12, TX12, cls_X12, tt_of 1321 (by decide +kernel) rfl, rfl⟩
theorem fl_X12_69 : FL RX12 69 12 29 true := ⟨by decide, RX12, TX12, cls_X12, tt_of 1322 (by decide +kernel) rfl, rfl⟩
theorem fl_X12_416 : FL RX12 416 12 30 false := ⟨by decide, RX12, TX12, cls_X12, tt_of 1323 (by decide +kernel) rfl, rfl⟩
theorem fl_X12_422 : FL RX12 422 12 31 false := ⟨by decide, RX12, TX12, cls_X12, tt_of 1324 (by decide +kernel) rfl, rfl⟩
theorem fl_X12_72 : FL RX12 72 12 32 true := ⟨by decide, RX12, TX12, cls_X12, tt_of 1325 (by decide +kernel) rfl, rfl⟩
theorem mc_J7_fill_53178 : Cond.code yJ7_fill_53178 cJ7_fill_53178 4 none ∈ TT := tt_of 325 (by decide +kernel) rfl
theorem mn_J7_fill_53178 : Cond.initialized (yJ7_fill_53178).cls ∈ TT := tt_of 158 (by decide +kernel) rfl
theorem ms_J7_fill_53178 : Cond.static yJ7_fill_53178 ∈ TT := tt_of 324 (by decide +kernel) rfl
theorem md_J7_fill_53178 : (yJ7_fill_53178).cls ≠ "java/lang/invoke/MethodHandle" ∧ (yJ7_fill_53178).cls ≠ "java/lang/invoke/VarHandle" ∧ (parseMethodDescriptor (yJ7_fill_53178).desc).map (fun d => d.parameters.length) = some 2 := (by decide +kernel)
theorem ct_X3_22 : CT RX3 22 yJ7_fill_53178 cJ7_fill_53178 4 none 2 := ⟨tt_of 323 (by decide +kernel) rfl, ms_J7_fill_53178, mn_J7_fill_53178, mc_J7_fill_53178, md_J7_fill_53178, by decide⟩
theorem mc_X11_feed : Cond.code yX11_feed cX11_feed 6 (some .int) ∈ TT := tt_of 503 (by decide +kernel) rfl
theorem mn_X11_feed : Cond.initialized (yX11_feed).cls ∈ TT := tt_of 151 (by decide +kernel) rfl
theorem mi_X11_feed : Cond.instanceMethod yX11_feed ∈ TT := tt_of 501 (by decide +kernel) rfl
theorem me_X11_feed : Cond.selects (yX11_feed).cls yX11_feed yX11_feed ∈ TT := tt_of 502 (by decide +kernel) rfl
theorem md_X11_feed : (yX11_feed).cls ≠ "java/lang/invoke/MethodHandle" ∧ (yX11_feed).cls ≠ "java/lang/invoke/VarHandle" ∧ (parseMethodDescriptor (yX11_feed).desc).map (fun d => d.parameters.length) = some 5 := (by decide +kernel)
theorem cv_L_13 : CV RL 13 11 yX11_feed cX11_feed 6 (some .int) 5 := ⟨⟨TX11, cls_X11⟩, tt_of 500 (by decide +kernel) rfl, mi_X11_feed, me_X11_feed, mn_X11_feed, mc_X11_feed, md_X11_feed, by decide⟩
theorem mc_X10_append : Cond.code yX10_append cX10_append 3 none ∈ TT := tt_of 507 (by decide +kernel) rfl
theorem mn_X10_append : Cond.initialized (yX10_append).cls ∈ TT := tt_of 152 (by decide +kernel) rfl
theorem mi_X10_append : Cond.instanceMethod yX10_append ∈ TT := tt_of 505 (by decide +kernel) rfl
theorem me_X10_append : Cond.selects (yX10_append).cls yX10_append yX10_append ∈ TT := tt_of 506 (by decide +kernel) rfl
theorem md_X10_append : (yX10_append).cls ≠ "java/lang/invoke/MethodHandle" ∧ (yX10_append).cls ≠ "java/lang/invoke/VarHandle" ∧ (parseMethodDescriptor (yX10_append).desc).map (fun d => d.parameters.length) = some 1 := (by decide +kernel)
theorem cv_X11_107 : CV RX11 107 10 yX10_append cX10_append 3 none 1 := ⟨⟨TX10, cls_X10⟩, tt_of 504 (by decide +kernel) rfl, mi_X10_append, me_X10_append, mn_X10_append, mc_X10_append, md_X10_append, by decide⟩
theorem mc_X11_end : Cond.code yX11_end cX11_end 2 (some .int) ∈ TT := tt_of 511 (by decide +kernel) rfl
theorem mn_X11_end : Cond.initialized (yX11_end).cls ∈ TT := tt_of 151 (by decide +kernel) rfl
theorem mi_X11_end : Cond.instanceMethod yX11_end ∈ TT := tt_of 509 (by decide +kernel) rfl
theorem me_X11_end : Cond.selects (yX11_end).cls yX11_end yX11_end ∈ TT := tt_of 510 (by decide +kernel) rfl
theorem md_X11_end : (yX11_end).cls ≠ "java/lang/invoke/MethodHandle" ∧ (yX11_end).cls ≠ "java/lang/invoke/VarHandle" ∧ (parseMethodDescriptor (yX11_end).desc).map (fun d => d.parameters.length) = some 1 := (by decide +kernel)
theorem cv_L_18 : CV RL 18 11 yX11_end cX11_end 2 (some .int) 1 := ⟨⟨TX11, cls_X11⟩, tt_of 508 (by decide +kernel) rfl, mi_X11_end, me_X11_end, mn_X11_end, mc_X11_end, md_X11_end, by decide⟩
theorem mc_X11_tell : Cond.code yX11_tell cX11_tell 2 (some .int) ∈ TT := tt_of 515 (by decide +kernel) rfl
theorem mn_X11_tell : Cond.initialized (yX11_tell).cls ∈ TT := tt_of 151 (by decide +kernel) rfl
theorem mi_X11_tell : Cond.instanceMethod yX11_tell ∈ TT := tt_of 513 (by decide +kernel) rfl
theorem me_X11_tell : Cond.selects (yX11_tell).cls yX11_tell yX11_tell ∈ TT := tt_of 514 (by decide +kernel) rfl
theorem md_X11_tell : (yX11_tell).cls ≠ "java/lang/invoke/MethodHandle" ∧ (yX11_tell).cls ≠ "java/lang/invoke/VarHandle" ∧ (parseMethodDescriptor (yX11_tell).desc).map (fun d => d.parameters.length) = some 0 := (by decide +kernel)
theorem cv_L_23 : CV RL 23 11 yX11_tell cX11_tell 2 (some .int) 0 := ⟨⟨TX11, cls_X11⟩, tt_of 512 (by decide +kernel) rfl, mi_X11_tell, me_X11_tell, mn_X11_tell, mc_X11_tell, md_X11_tell, by decide⟩
theorem mc_X6_read : Cond.code yX6_read cX6_read 3 (some .int) ∈ TT := tt_of 519 (by decide +kernel) rfl
theorem mn_X6_read : Cond.initialized (yX6_read).cls ∈ TT := tt_of 154 (by decide +kernel) rfl
theorem mi_X6_read : Cond.instanceMethod yX6_read ∈ TT := tt_of 517 (by decide +kernel) rfl
theorem me_X6_read : Cond.selects (yX6_read).cls yX6_read yX6_read ∈ TT := tt_of 518 (by decide +kernel) rfl
theorem md_X6_read : (yX6_read).cls ≠ "java/lang/invoke/MethodHandle" ∧ (yX6_read).cls ≠ "java/lang/invoke/VarHandle" ∧ (parseMethodDescriptor (yX6_read).desc).map (fun d => d.parameters.length) = some 0 := (by decide +kernel)
theorem cv_X11_111 : CV RX11 111 6 yX6_read cX6_read 3 (some .int) 0 := ⟨⟨TX6, cls_X6⟩, tt_of 516 (by decide +kernel) rfl, mi_X6_read, me_X6_read, mn_X6_read, mc_X6_read, md_X6_read, by decide⟩
theorem mc_X6_readKind : Cond.code yX6_readKind cX6_readKind 2 (some .int) ∈ TT := tt_of 523 (by decide +kernel) rfl
theorem mn_X6_readKind : Cond.initialized (yX6_readKind).cls ∈ TT := tt_of 154 (by decide +kernel) rfl
theorem mi_X6_readKind : Cond.instanceMethod yX6_readKind ∈ TT := tt_of 522 (by decide +kernel) rfl
theorem me_X6_readKind : Cond.selects (yX6_readKind).cls yX6_readKind yX6_readKind ∈ TT := tt_of 0 (by decide +kernel) rfl
theorem md_X6_readKind : (yX6_readKind).cls ≠ "java/lang/invoke/MethodHandle" ∧ (yX6_readKind).cls ≠ "java/lang/invoke/VarHandle" ∧ (parseMethodDescriptor (yX6_readKind).desc).map (fun d => d.parameters.length) = some 0 := (by decide +kernel)
theorem cv_X6_30 : CV RX6 30 6 yX6_readKind cX6_readKind 2 (some .int) 0 := ⟨⟨TX6, cls_X6⟩, tt_of 520 (by decide +kernel) rfl, mi_X6_readKind, me_X6_readKind, mn_X6_readKind, mc_X6_readKind, md_X6_readKind, by decide⟩
theorem mc_X6_skipBlanks : Cond.code yX6_skipBlanks cX6_skipBlanks 1 none ∈ TT := tt_of 527 (by decide +kernel) rfl
theorem mn_X6_skipBlanks : Cond.initialized (yX6_skipBlanks).cls ∈ TT := tt_of 154 (by decide +kernel) rfl
theorem mi_X6_skipBlanks : Cond.instanceMethod yX6_skipBlanks ∈ TT := tt_of 526 (by decide +kernel) rfl
theorem me_X6_skipBlanks : Cond.selects (yX6_skipBlanks).cls yX6_skipBlanks yX6_skipBlanks ∈ TT := tt_of 1 (by decide +kernel) rfl
theorem md_X6_skipBlanks : (yX6_skipBlanks).cls ≠ "java/lang/invoke/MethodHandle" ∧ (yX6_skipBlanks).cls ≠ "java/lang/invoke/VarHandle" ∧ (parseMethodDescriptor (yX6_skipBlanks).desc).map (fun d => d.parameters.length) = some 0 := (by decide +kernel)
theorem cv_X6_60 : CV RX6 60 6 yX6_skipBlanks cX6_skipBlanks 1 none 0 := ⟨⟨TX6, cls_X6⟩, tt_of 524 (by decide +kernel) rfl, mi_X6_skipBlanks, me_X6_skipBlanks, mn_X6_skipBlanks, mc_X6_skipBlanks, md_X6_skipBlanks, by decide⟩
theorem mc_X10_at : Cond.code yX10_at cX10_at 2 (some .int) ∈ TT := tt_of 531 (by decide +kernel) rfl
theorem mn_X10_at : Cond.initialized (yX10_at).cls ∈ TT := tt_of 152 (by decide +kernel) rfl
theorem mi_X10_at : Cond.instanceMethod yX10_at ∈ TT := tt_of 529 (by decide +kernel) rfl
theorem me_X10_at : Cond.selects (yX10_at).cls yX10_at yX10_at ∈ TT := tt_of 530 (by decide +kernel) rfl
theorem md_X10_at : (yX10_at).cls ≠ "java/lang/invoke/MethodHandle" ∧ (yX10_at).cls ≠ "java/lang/invoke/VarHandle" ∧ (parseMethodDescriptor (yX10_at).desc).map (fun d => d.parameters.length) = some 1 := (by decide +kernel)
theorem cv_X6_56 : CV RX6 56 10 yX10_at cX10_at 2 (some .int) 1 := ⟨⟨TX10, cls_X10⟩, tt_of 528 (by decide +kernel) rfl, mi_X10_at, me_X10_at, mn_X10_at, mc_X10_at, md_X10_at, by decide⟩
theorem mc_X10_isLetterAt : Cond.code yX10_isLetterAt cX10_isLetterAt 3 (some .boolean) ∈ TT := tt_of 535 (by decide +kernel) rfl
theorem mn_X10_isLetterAt : Cond.initialized (yX10_isLetterAt).cls ∈ TT := tt_of 152 (by decide +kernel) rfl
theorem mi_X10_isLetterAt : Cond.instanceMethod yX10_isLetterAt ∈ TT := tt_of 533 (by decide +kernel) rfl
theorem me_X10_isLetterAt : Cond.selects (yX10_isLetterAt).cls yX10_isLetterAt yX10_isLetterAt ∈ TT := tt_of 534 (by decide +kernel) rfl
theorem md_X10_isLetterAt : (yX10_isLetterAt).cls ≠ "java/lang/invoke/MethodHandle" ∧ (yX10_isLetterAt).cls ≠ "java/lang/invoke/VarHandle" ∧ (parseMethodDescriptor (yX10_isLetterAt).desc).map (fun d => d.parameters.length) = some 1 := (by decide +kernel)
theorem cv_X6_63 : CV RX6 63 10 yX10_isLetterAt cX10_isLetterAt 3 (some .boolean) 1 := ⟨⟨TX10, cls_X10⟩, tt_of 532 (by decide +kernel) rfl, mi_X10_isLetterAt, me_X10_isLetterAt, mn_X10_isLetterAt, mc_X10_isLetterAt, md_X10_isLetterAt, by decide⟩
theorem cv_X10_19 : CV RX10 19 10 yX10_at cX10_at 2 (some .int) 1 := ⟨⟨TX10, cls_X10⟩, tt_of 536 (by decide +kernel) rfl, mi_X10_at, me_X10_at, mn_X10_at, mc_X10_at, md_X10_at, by decide⟩
theorem mc_X6_kindWord : Cond.code yX6_kindWord cX6_kindWord 1 (some (.object "java/lang/String")) ∈ TT := tt_of 539 (by decide +kernel) rfl
theorem mn_X6_kindWord : Cond.initialized (yX6_kindWord).cls ∈ TT := tt_of 154 (by decide +kernel) rfl
theorem ms_X6_kindWord : Cond.static yX6_kindWord ∈ TT := tt_of 538 (by decide +kernel) rfl
theorem md_X6_kindWord : (yX6_kindWord).cls ≠ "java/lang/invoke/MethodHandle" ∧ (yX6_kindWord).cls ≠ "java/lang/invoke/VarHandle" ∧ (parseMethodDescriptor (yX6_kindWord).desc).map (fun d => d.parameters.length) = some 1 := (by decide +kernel)
theorem ct_X6_67 : CT RX6 67 yX6_kindWord cX6_kindWord 1 (some (.object "java/lang/String")) 1 := ⟨tt_of 537 (by decide +kernel) rfl, ms_X6_kindWord, mn_X6_kindWord, mc_X6_kindWord, md_X6_kindWord, by decide⟩
theorem mc_X6_isWord : Cond.code yX6_isWord cX6_isWord 3 (some .boolean) ∈ TT := tt_of 548 (by decide +kernel) rfl
theorem mn_X6_isWord : Cond.initialized (yX6_isWord).cls ∈ TT := tt_of 154 (by decide +kernel) rfl
theorem mi_X6_isWord : Cond.instanceMethod yX6_isWord ∈ TT := tt_of 547 (by decide +kernel) rfl
theorem me_X6_isWord : Cond.selects (yX6_isWord).cls yX6_isWord yX6_isWord ∈ TT := tt_of 2 (by decide +kernel) rfl
theorem md_X6_isWord : (yX6_isWord).cls ≠ "java/lang/invoke/MethodHandle" ∧ (yX6_isWord).cls ≠ "java/lang/invoke/VarHandle" ∧ (parseMethodDescriptor (yX6_isWord).desc).map (fun d => d.parameters.length) = some 1 := (by decide +kernel)
theorem cv_X6_71 : CV RX6 71 6 yX6_isWord cX6_isWord 3 (some .boolean) 1 := ⟨⟨TX6, cls_X6⟩, tt_of 545 (by decide +kernel) rfl, mi_X6_isWord, me_X6_isWord, mn_X6_isWord, mc_X6_isWord, md_X6_isWord, by decide⟩
theorem mc_J0_length_8abf5 : Cond.code yJ0_length_8abf5 cJ0_length_8abf5 1 (some .int) ∈ TT := tt_of 552 (by decide +kernel) rfl
theorem mn_J0_length_8abf5 : Cond.initialized (yJ0_length_8abf5).cls ∈ TT := tt_of 164 (by decide +kernel) rfl
theorem mi_J0_length_8abf5 : Cond.instanceMethod yJ0_length_8abf5 ∈ TT := tt_of 550 (by decide +kernel) rfl
theorem me_J0_length_8abf5 : Cond.selects (yJ0_length_8abf5).cls yJ0_length_8abf5 yJ0_length_8abf5 ∈ TT := tt_of 551 (by decide +kernel) rfl
theorem md_J0_length_8abf5 : (yJ0_length_8abf5).cls ≠ "java/lang/invoke/MethodHandle" ∧ (yJ0_length_8abf5).cls ≠ "java/lang/invoke/VarHandle" ∧ (parseMethodDescriptor (yJ0_length_8abf5).desc).map (fun d => d.parameters.length) = some 0 := (by decide +kernel)
theorem mc_J0_coder_7d493 : Cond.code yJ0_coder_7d493 cJ0_coder_7d493 1 (some .byte) ∈ TT := tt_of 556 (by decide +kernel) rfl
theorem mn_J0_coder_7d493 : Cond.initialized (yJ0_coder_7d493).cls ∈ TT := tt_of 164 (by decide +kernel) rfl
theorem mi_J0_coder_7d493 : Cond.instanceMethod yJ0_coder_7d493 ∈ TT := tt_of 554 (by decide +kernel) rfl
theorem me_J0_coder_7d493 : Cond.selects (yJ0_coder_7d493).cls yJ0_coder_7d493 yJ0_coder_7d493 ∈ TT := tt_of 555 (by decide +kernel) rfl
theorem md_J0_coder_7d493 : (yJ0_coder_7d493).cls ≠ "java/lang/invoke/MethodHandle" ∧ (yJ0_coder_7d493).cls ≠ "java/lang/invoke/VarHandle" ∧ (parseMethodDescriptor (yJ0_coder_7d493).desc).map (fun d => d.parameters.length) = some 0 := (by decide +kernel)
theorem mc_J0_charAt_5068e : Cond.code yJ0_charAt_5068e cJ0_charAt_5068e 2 (some .char) ∈ TT := tt_of 562 (by decide +kernel) rfl
theorem mn_J0_charAt_5068e : Cond.initialized (yJ0_charAt_5068e).cls ∈ TT := tt_of 164 (by decide +kernel) rfl
theorem mi_J0_charAt_5068e : Cond.instanceMethod yJ0_charAt_5068e ∈ TT := tt_of 560 (by decide +kernel) rfl
theorem me_J0_charAt_5068e : Cond.selects (yJ0_charAt_5068e).cls yJ0_charAt_5068e yJ0_charAt_5068e ∈ TT := tt_of 561 (by decide +kernel) rfl
theorem md_J0_charAt_5068e : (yJ0_charAt_5068e).cls ≠ "java/lang/invoke/MethodHandle" ∧ (yJ0_charAt_5068e).cls ≠ "java/lang/invoke/VarHandle" ∧ (parseMethodDescriptor (yJ0_charAt_5068e).desc).map (fun d => d.parameters.length) = some 1 := (by decide +kernel)
theorem mc_J0_isLatin1_aae02 : Cond.code yJ0_isLatin1_aae02 cJ0_isLatin1_aae02 1 (some .boolean) ∈ TT := tt_of 566 (by decide +kernel) rfl
theorem mn_J0_isLatin1_aae02 : Cond.initialized (yJ0_isLatin1_aae02).cls ∈ TT := tt_of 164 (by decide +kernel) rfl
theorem mi_J0_isLatin1_aae02 : Cond.instanceMethod yJ0_isLatin1_aae02 ∈ TT := tt_of 564 (by decide +kernel) rfl
theorem me_J0_isLatin1_aae02 : Cond.selects (yJ0_isLatin1_aae02).cls yJ0_isLatin1_aae02 yJ0_isLatin1_aae02 ∈ TT := tt_of 565 (by decide +kernel) rfl
theorem md_J0_isLatin1_aae02 : (yJ0_isLatin1_aae02).cls ≠ "java/lang/invoke/MethodHandle" ∧ (yJ0_isLatin1_aae02).cls ≠ "java/lang/invoke/VarHandle" ∧ (parseMethodDescriptor (yJ0_isLatin1_aae02).desc).map (fun d => d.parameters.length) = some 0 := (by decide +kernel)
theorem mc_J1_charAt_3b067 : Cond.code yJ1_charAt_3b067 cJ1_charAt_3b067 2 (some .char) ∈ TT := tt_of 569 (by decide +kernel) rfl
theorem mn_J1_charAt_3b067 : Cond.initialized (yJ1_charAt_3b067).cls ∈ TT := tt_of 165 (by decide +kernel) rfl
theorem ms_J1_charAt_3b067 : Cond.static yJ1_charAt_3b067 ∈ TT := tt_of 568 (by decide +kernel) rfl
theorem md_J1_charAt_3b067 : (yJ1_charAt_3b067).cls ≠ "java/lang/invoke/MethodHandle" ∧ (yJ1_charAt_3b067).cls ≠ "java/lang/invoke/VarHandle" ∧ (parseMethodDescriptor (yJ1_charAt_3b067).desc).map (fun d => d.parameters.length) = some 2 := (by decide +kernel)
theorem ct_J0_495 : CT RJ0 495 yJ1_charAt_3b067 cJ1_charAt_3b067 2 (some .char) 2 := ⟨tt_of 567 (by decide +kernel) rfl, ms_J1_charAt_3b067, mn_J1_charAt_3b067, mc_J1_charAt_3b067, md_J1_charAt_3b067, by decide⟩
theorem mc_J0_checkIndex_df160 : Cond.code yJ0_checkIndex_df160 cJ0_checkIndex_df160 2 none ∈ TT := tt_of 572 (by decide +kernel) rfl
theorem mn_J0_checkIndex_df160 : Cond.initialized (yJ0_checkIndex_df160).cls ∈ TT := tt_of 164 (by decide +kernel) rfl
theorem ms_J0_checkIndex_df160 : Cond.static yJ0_checkIndex_df160 ∈ TT := tt_of 571 (by decide +kernel) rfl
theorem md_J0_checkIndex_df160 : (yJ0_checkIndex_df160).cls ≠ "java/lang/invoke/MethodHandle" ∧ (yJ0_checkIndex_df160).cls ≠ "java/lang/invoke/VarHandle" ∧ (parseMethodDescriptor (yJ0_checkIndex_df160).desc).map (fun d => d.parameters.length) = some 2 := (by decide +kernel)
theorem ct_J1_9 : CT RJ1 9 yJ0_checkIndex_df160 cJ0_checkIndex_df160 2 none 2 := ⟨tt_of 570 (by decide +kernel) rfl, ms_J0_checkIndex_df160, mn_J0_checkIndex_df160, mc_J0_checkIndex_df160, md_J0_checkIndex_df160, by decide⟩
theorem mc_J3_checkIndex_8e157 : Cond.code yJ3_checkIndex_8e157 cJ3_checkIndex_8e157 3 (some .int) ∈ TT := tt_of 577 (by decide +kernel) rfl
theorem mn_J3_checkIndex_8e157 : Cond.initialized (yJ3_checkIndex_8e157).cls ∈ TT := tt_of 166 (by decide +kernel) rfl
theorem ms_J3_checkIndex_8e157 : Cond.static yJ3_checkIndex_8e157 ∈ TT := tt_of 576 (by decide +kernel) rfl
theorem md_J3_checkIndex_8e157 : (yJ3_checkIndex_8e157).cls ≠ "java/lang/invoke/MethodHandle" ∧ (yJ3_checkIndex_8e157).cls ≠ "java/lang/invoke/VarHandle" ∧ (parseMethodDescriptor (yJ3_checkIndex_8e157).desc).map (fun d => d.parameters.length) = some 3 := (by decide +kernel)
theorem ct_J0_1059 : CT RJ0 1059 yJ3_checkIndex_8e157 cJ3_checkIndex_8e157 3 (some .int) 3 := ⟨tt_of 575 (by decide +kernel) rfl, ms_J3_checkIndex_8e157, mn_J3_checkIndex_8e157, mc_J3_checkIndex_8e157, md_J3_checkIndex_8e157, by decide⟩
theorem mc_J2_charAt_3b067 : Cond.code yJ2_charAt_3b067 cJ2_charAt_3b067 2 (some .char) ∈ TT := tt_of 580 (by decide +kernel) rfl
theorem mn_J2_charAt_3b067 : Cond.initialized (yJ2_charAt_3b067).cls ∈ TT := tt_of 167 (by decide +kernel) rfl
theorem ms_J2_charAt_3b067 : Cond.static yJ2_charAt_3b067 ∈ TT := tt_of 579 (by decide +kernel) rfl
theorem md_J2_charAt_3b067 : (yJ2_charAt_3b067).cls ≠ "java/lang/invoke/MethodHandle" ∧ (yJ2_charAt_3b067).cls ≠ "java/lang/invoke/VarHandle" ∧ (parseMethodDescriptor (yJ2_charAt_3b067).desc).map (fun d => d.parameters.length) = some 2 := (by decide +kernel)
theorem ct_J0_498 : CT RJ0 498 yJ2_charAt_3b067 cJ2_charAt_3b067 2 (some .char) 2 := ⟨tt_of 578 (by decide +kernel) rfl, ms_J2_charAt_3b067, mn_J2_charAt_3b067, mc_J2_charAt_3b067, md_J2_charAt_3b067, by decide⟩
theorem mc_J2_checkIndex_2214a : Cond.code yJ2_checkIndex_2214a cJ2_checkIndex_2214a 2 none ∈ TT := tt_of 583 (by decide +kernel) rfl
theorem mn_J2_checkIndex_2214a : Cond.initialized (yJ2_checkIndex_2214a).cls ∈ TT := tt_of 167 (by decide +kernel) rfl
theorem ms_J2_checkIndex_2214a : Cond.static yJ2_checkIndex_2214a ∈ TT := tt_of 582 (by decide +kernel) rfl
theorem md_J2_checkIndex_2214a : (yJ2_checkIndex_2214a).cls ≠ "java/lang/invoke/MethodHandle" ∧ (yJ2_checkIndex_2214a).cls ≠ "java/lang/invoke/VarHandle" ∧ (parseMethodDescriptor (yJ2_checkIndex_2214a).desc).map (fun d => d.parameters.length) = some 2 := (by decide +kernel)
theorem ct_J2_67 : CT RJ2 67 yJ2_checkIndex_2214a cJ2_checkIndex_2214a 2 none 2 := ⟨tt_of 581 (by decide +kernel) rfl, ms_J2_checkIndex_2214a, mn_J2_checkIndex_2214a, mc_J2_checkIndex_2214a, md_J2_checkIndex_2214a, by decide⟩
theorem mc_J2_length_9d52b : Cond.code yJ2_length_9d52b cJ2_length_9d52b 1 (some .int) ∈ TT := tt_of 586 (by decide +kernel) rfl
theorem mn_J2_length_9d52b : Cond.initialized (yJ2_length_9d52b).cls ∈ TT := tt_of 167 (by decide +kernel) rfl
theorem ms_J2_length_9d52b : Cond.static yJ2_length_9d52b ∈ TT := tt_of 585 (by decide +kernel) rfl
theorem md_J2_length_9d52b : (yJ2_length_9d52b).cls ≠ "java/lang/invoke/MethodHandle" ∧ (yJ2_length_9d52b).cls ≠ "java/lang/invoke/VarHandle" ∧ (parseMethodDescriptor (yJ2_length_9d52b).desc).map (fun d => d.parameters.length) = some 1 := (by decide +kernel)
theorem ct_J2_48 : CT RJ2 48 yJ2_length_9d52b cJ2_length_9d52b 1 (some .int) 1 := ⟨tt_of 584 (by decide +kernel) rfl, ms_J2_length_9d52b, mn_J2_length_9d52b, mc_J2_length_9d52b, md_J2_length_9d52b, by decide⟩
theorem ct_J2_414 : CT RJ2 414 yJ0_checkIndex_df160 cJ0_checkIndex_df160 2 none 2 := ⟨tt_of 587 (by decide +kernel) rfl, ms_J0_checkIndex_df160, mn_J0_checkIndex_df160, mc_J0_checkIndex_df160, md_J0_checkIndex_df160, by decide⟩
theorem mc_J2_getChar_3b067 : Cond.code yJ2_getChar_3b067 cJ2_getChar_3b067 2 (some .char) ∈ TT := tt_of 590 (by decide +kernel) rfl
theorem mn_J2_getChar_3b067 : Cond.initialized (yJ2_getChar_3b067).cls ∈ TT := tt_of 167 (by decide +kernel) rfl
theorem ms_J2_getChar_3b067 : Cond.static yJ2_getChar_3b067 ∈ TT := tt_of 589 (by decide +kernel) rfl
theorem md_J2_getChar_3b067 : (yJ2_getChar_3b067).cls ≠ "java/lang/invoke/MethodHandle" ∧ (yJ2_getChar_3b067).cls ≠ "java/lang/invoke/VarHandle" ∧ (parseMethodDescriptor (yJ2_getChar_3b067).desc).map (fun d => d.parameters.length) = some 2 := (by decide +kernel)
theorem ct_J2_71 : CT RJ2 71 yJ2_getChar_3b067 cJ2_getChar_3b067 2 (some .char) 2 := ⟨tt_of 588 (by decide +kernel) rfl, ms_J2_getChar_3b067, mn_J2_getChar_3b067, mc_J2_getChar_3b067, md_J2_getChar_3b067, by decide⟩
theorem mc_X6_blame : Cond.code yX6_blame cX6_blame 3 none ∈ TT := tt_of 600 (by decide +kernel) rfl
theorem mn_X6_blame : Cond.initialized (yX6_blame).cls ∈ TT := tt_of 154 (by decide +kernel) rfl
theorem mi_X6_blame : Cond.instanceMethod yX6_blame ∈ TT := tt_of 599 (by decide +kernel) rfl
theorem me_X6_blame : Cond.selects (yX6_blame).cls yX6_blame yX6_blame ∈ TT := tt_of 3 (by decide +kernel) rfl
theorem md_X6_blame : (yX6_blame).cls ≠ "java/lang/invoke/MethodHandle" ∧ (yX6_blame).cls ≠ "java/lang/invoke/VarHandle" ∧ (parseMethodDescriptor (yX6_blame).desc).map (fun d => d.parameters.length) = some 2 := (by decide +kernel)
theorem cv_X6_44 : CV RX6 44 6 yX6_blame cX6_blame 3 none 2 := ⟨⟨TX6, cls_X6⟩, tt_of 597 (by decide +kernel) rfl, mi_X6_blame, me_X6_blame, mn_X6_blame, mc_X6_blame, md_X6_blame, by decide⟩
theorem mc_X6_readNumber : Cond.code yX6_readNumber cX6_readNumber 2 (some .int) ∈ TT := tt_of 604 (by decide +kernel) rfl
theorem mn_X6_readNumber : Cond.initialized (yX6_readNumber).cls ∈ TT := tt_of 154 (by decide +kernel) rfl
theorem mi_X6_readNumber : Cond.instanceMethod yX6_readNumber ∈ TT := tt_of 603 (by decide +kernel) rfl
theorem me_X6_readNumber : Cond.selects (yX6_readNumber).cls yX6_readNumber yX6_readNumber ∈ TT := tt_of 4 (by decide +kernel) rfl
theorem md_X6_readNumber : (yX6_readNumber).cls ≠ "java/lang/invoke/MethodHandle" ∧ (yX6_readNumber).cls ≠ "java/lang/invoke/VarHandle" ∧ (parseMethodDescriptor (yX6_readNumber).desc).map (fun d => d.parameters.length) = some 0 := (by decide +kernel)
theorem cv_X6_34 : CV RX6 34 6 yX6_readNumber cX6_readNumber 2 (some .int) 0 := ⟨⟨TX6, cls_X6⟩, tt_of 601 (by decide +kernel) rfl, mi_X6_readNumber, me_X6_readNumber, mn_X6_readNumber, mc_X6_readNumber, md_X6_readNumber, by decide⟩
theorem mc_X10_isDigitAt : Cond.code yX10_isDigitAt cX10_isDigitAt 3 (some .boolean) ∈ TT := tt_of 608 (by decide +kernel) rfl
theorem mn_X10_isDigitAt : Cond.initialized (yX10_isDigitAt).cls ∈ TT := tt_of 152 (by decide +kernel) rfl
theorem mi_X10_isDigitAt : Cond.instanceMethod yX10_isDigitAt ∈ TT := tt_of 606 (by decide +kernel) rfl
theorem me_X10_isDigitAt : Cond.selects (yX10_isDigitAt).cls yX10_isDigitAt yX10_isDigitAt ∈ TT := tt_of 607 (by decide +kernel) rfl
theorem md_X10_isDigitAt : (yX10_isDigitAt).cls ≠ "java/lang/invoke/MethodHandle" ∧ (yX10_isDigitAt).cls ≠ "java/lang/invoke/VarHandle" ∧ (parseMethodDescriptor (yX10_isDigitAt).desc).map (fun d => d.parameters.length) = some 1 := (by decide +kernel)
theorem cv_X6_94 : CV RX6 94 10 yX10_isDigitAt cX10_isDigitAt 3 (some .boolean) 1 := ⟨⟨TX10, cls_X10⟩, tt_of 605 (by decide +kernel) rfl, mi_X10_isDigitAt, me_X10_isDigitAt, mn_X10_isDigitAt, mc_X10_isDigitAt, md_X10_isDigitAt, by decide⟩
theorem mc_J9_min_7cf53 : Cond.code yJ9_min_7cf53 cJ9_min_7cf53 2 (some .int) ∈ TT := tt_of 612 (by decide +kernel) rfl
theorem mn_J9_min_7cf53 : Cond.initialized (yJ9_min_7cf53).cls ∈ TT := tt_of 168 (by decide +kernel) rfl
theorem ms_J9_min_7cf53 : Cond.static yJ9_min_7cf53 ∈ TT := tt_of 611 (by decide +kernel) rfl
theorem md_J9_min_7cf53 : (yJ9_min_7cf53).cls ≠ "java/lang/invoke/MethodHandle" ∧ (yJ9_min_7cf53).cls ≠ "java/lang/invoke/VarHandle" ∧ (parseMethodDescriptor (yJ9_min_7cf53).desc).map (fun d => d.parameters.length) = some 2 := (by decide +kernel)
theorem ct_X6_98 : CT RX6 98 yJ9_min_7cf53 cJ9_min_7cf53 2 (some .int) 2 := ⟨tt_of 610 (by decide +kernel) rfl, ms_J9_min_7cf53, mn_J9_min_7cf53, mc_J9_min_7cf53, md_J9_min_7cf53, by decide⟩
theorem mc_X6_build : Cond.code yX6_build cX6_build 3 (some .boolean) ∈ TT := tt_of 616 (by decide +kernel) rfl
theorem mn_X6_build : Cond.initialized (yX6_build).cls ∈ TT := tt_of 154 (by decide +kernel) rfl
theorem mi_X6_build : Cond.instanceMethod yX6_build ∈ TT := tt_of 615 (by decide +kernel) rfl
theorem me_X6_build : Cond.selects (yX6_build).cls yX6_build yX6_build ∈ TT := tt_of 5 (by decide +kernel) rfl
theorem md_X6_build : (yX6_build).cls ≠ "java/lang/invoke/MethodHandle" ∧ (yX6_build).cls ≠ "java/lang/invoke/VarHandle" ∧ (parseMethodDescriptor (yX6_build).desc).map (fun d => d.parameters.length) = some 2 := (by decide +kernel)
theorem cv_X6_37 : CV RX6 37 6 yX6_build cX6_build 3 (some .boolean) 2 := ⟨⟨TX6, cls_X6⟩, tt_of 613 (by decide +kernel) rfl, mi_X6_build, me_X6_build, mn_X6_build, mc_X6_build, md_X6_build, by decide⟩
theorem mc_X6_buildRow : Cond.code yX6_buildRow cX6_buildRow 4 (some .boolean) ∈ TT := tt_of 620 (by decide +kernel) rfl
theorem mn_X6_buildRow : Cond.initialized (yX6_buildRow).cls ∈ TT := tt_of 154 (by decide +kernel) rfl
theorem mi_X6_buildRow : Cond.instanceMethod yX6_buildRow ∈ TT := tt_of 619 (by decide +kernel) rfl
theorem me_X6_buildRow : Cond.selects (yX6_buildRow).cls yX6_buildRow yX6_buildRow ∈ TT := tt_of 6 (by decide +kernel) rfl
theorem md_X6_buildRow : (yX6_buildRow).cls ≠ "java/lang/invoke/MethodHandle" ∧ (yX6_buildRow).cls ≠ "java/lang/invoke/VarHandle" ∧ (parseMethodDescriptor (yX6_buildRow).desc).map (fun d => d.parameters.length) = some 2 := (by decide +kernel)
theorem cv_X6_125 : CV RX6 125 6 yX6_buildRow cX6_buildRow 4 (some .boolean) 2 := ⟨⟨TX6, cls_X6⟩, tt_of 617 (by decide +kernel) rfl, mi_X6_buildRow, me_X6_buildRow, mn_X6_buildRow, mc_X6_buildRow, md_X6_buildRow, by decide⟩
theorem mc_X6_buildOfCodes : Cond.code yX6_buildOfCodes cX6_buildOfCodes 5 (some .boolean) ∈ TT := tt_of 624 (by decide +kernel) rfl
theorem mn_X6_buildOfCodes : Cond.initialized (yX6_buildOfCodes).cls ∈ TT := tt_of 154 (by decide +kernel) rfl
theorem mi_X6_buildOfCodes : Cond.instanceMethod yX6_buildOfCodes ∈ TT := tt_of 623 (by decide +kernel) rfl
theorem me_X6_buildOfCodes : Cond.selects (yX6_buildOfCodes).cls yX6_buildOfCodes yX6_buildOfCodes ∈ TT := tt_of 7 (by decide +kernel) rfl
theorem md_X6_buildOfCodes : (yX6_buildOfCodes).cls ≠ "java/lang/invoke/MethodHandle" ∧ (yX6_buildOfCodes).cls ≠ "java/lang/invoke/VarHandle" ∧ (parseMethodDescriptor (yX6_buildOfCodes).desc).map (fun d => d.parameters.length) = some 2 := (by decide +kernel)
theorem cv_X6_134 : CV RX6 134 6 yX6_buildOfCodes cX6_buildOfCodes 5 (some .boolean) 2 := ⟨⟨TX6, cls_X6⟩, tt_of 621 (by decide +kernel) rfl, mi_X6_buildOfCodes, me_X6_buildOfCodes, mn_X6_buildOfCodes, mc_X6_buildOfCodes, md_X6_buildOfCodes, by decide⟩
theorem mc_X4_begin : Cond.code yX4_begin cX4_begin 2 none ∈ TT := tt_of 628 (by decide +kernel) rfl
theorem mn_X4_begin : Cond.initialized (yX4_begin).cls ∈ TT := tt_of 153 (by decide +kernel) rfl
theorem mi_X4_begin : Cond.instanceMethod yX4_begin ∈ TT := tt_of 626 (by decide +kernel) rfl
theorem me_X4_begin : Cond.selects (yX4_begin).cls yX4_begin yX4_begin ∈ TT := tt_of 627 (by decide +kernel) rfl
theorem md_X4_begin : (yX4_begin).cls ≠ "java/lang/invoke/MethodHandle" ∧ (yX4_begin).cls ≠ "java/lang/invoke/VarHandle" ∧ (parseMethodDescriptor (yX4_begin).desc).map (fun d => d.parameters.length) = some 1 := (by decide +kernel)
theorem cv_X6_140 : CV RX6 140 4 yX4_begin cX4_begin 2 none 1 := ⟨⟨TX4, cls_X4⟩, tt_of 625 (by decide +kernel) rfl, mi_X4_begin, me_X4_begin, mn_X4_begin, mc_X4_begin, md_X4_begin, by decide⟩
theorem ct_X4_34 : CT RX4 34 yJ9_min_7cf53 cJ9_min_7cf53 2 (some .int) 2 := ⟨tt_of 629 (by decide +kernel) rfl, ms_J9_min_7cf53, mn_J9_min_7cf53, mc_J9_min_7cf53, md_J9_min_7cf53, by decide⟩
theorem mc_J9_max_7cf53 : Cond.code yJ9_max_7cf53 cJ9_max_7cf53 2 (some .int) ∈ TT := tt_of 632 (by decide +kernel) rfl
theorem mn_J9_max_7cf53 : Cond.initialized (yJ9_max_7cf53).cls ∈ TT := tt_of 168 (by decide +kernel) rfl
theorem ms_J9_max_7cf53 : Cond.static yJ9_max_7cf53 ∈ TT := tt_of 631 (by decide +kernel) rfl
theorem md_J9_max_7cf53 : (yJ9_max_7cf53).cls ≠ "java/lang/invoke/MethodHandle" ∧ (yJ9_max_7cf53).cls ≠ "java/lang/invoke/VarHandle" ∧ (parseMethodDescriptor (yJ9_max_7cf53).desc).map (fun d => d.parameters.length) = some 2 := (by decide +kernel)
theorem ct_X4_40 : CT RX4 40 yJ9_max_7cf53 cJ9_max_7cf53 2 (some .int) 2 := ⟨tt_of 630 (by decide +kernel) rfl, ms_J9_max_7cf53, mn_J9_max_7cf53, mc_J9_max_7cf53, md_J9_max_7cf53, by decide⟩
theorem ct_X4_43 : CT RX4 43 yJ7_fill_53178 cJ7_fill_53178 4 none 2 := ⟨tt_of 633 (by decide +kernel) rfl, ms_J7_fill_53178, mn_J7_fill_53178, mc_J7_fill_53178, md_J7_fill_53178, by decide⟩
theorem mc_X6_codeAtMost : Cond.code yX6_codeAtMost cX6_codeAtMost 3 (some .boolean) ∈ TT := tt_of 636 (by decide +kernel) rfl
theorem mn_X6_codeAtMost : Cond.initialized (yX6_codeAtMost).cls ∈ TT := tt_of 154 (by decide +kernel) rfl
theorem ms_X6_codeAtMost : Cond.static yX6_codeAtMost ∈ TT := tt_of 635 (by decide +kernel) rfl
theorem md_X6_codeAtMost : (yX6_codeAtMost).cls ≠ "java/lang/invoke/MethodHandle" ∧ (yX6_codeAtMost).cls ≠ "java/lang/invoke/VarHandle" ∧ (parseMethodDescriptor (yX6_codeAtMost).desc).map (fun d => d.parameters.length) = some 3 := (by decide +kernel)
theorem ct_X6_144 : CT RX6 144 yX6_codeAtMost cX6_codeAtMost 3 (some .boolean) 3 := ⟨tt_of 634 (by decide +kernel) rfl, ms_X6_codeAtMost, mn_X6_codeAtMost, mc_X6_codeAtMost, md_X6_codeAtMost, by decide⟩
theorem mc_X6_isFiner : Cond.code yX6_isFiner cX6_isFiner 5 (some .boolean) ∈ TT := tt_of 639 (by decide +kernel) rfl
theorem mn_X6_isFiner : Cond.initialized (yX6_isFiner).cls ∈ TT := tt_of 154 (by decide +kernel) rfl
theorem ms_X6_isFiner : Cond.static yX6_isFiner ∈ TT := tt_of 638 (by decide +kernel) rfl
theorem md_X6_isFiner : (yX6_isFiner).cls ≠ "java/lang/invoke/MethodHandle" ∧ (yX6_isFiner).cls ≠ "java/lang/invoke/VarHandle" ∧ (parseMethodDescriptor (yX6_isFiner).desc).map (fun d => d.parameters.length) = some 2 := (by decide +kernel)
theorem ct_X6_151 : CT RX6 151 yX6_isFiner cX6_isFiner 5 (some .boolean) 2 := ⟨tt_of 637 (by decide +kernel) rfl, ms_X6_isFiner, mn_X6_isFiner, mc_X6_isFiner, md_X6_isFiner, by decide⟩
theorem mc_X6_buildDivisors : Cond.code yX6_buildDivisors cX6_buildDivisors 4 (some .boolean) ∈ TT := tt_of 643 (by decide +kernel) rfl
theorem mn_X6_buildDivisors : Cond.initialized (yX6_buildDivisors).cls ∈ TT := tt_of 154 (by decide +kernel) rfl
theorem mi_X6_buildDivisors : Cond.instanceMethod yX6_buildDivisors ∈ TT := tt_of 642 (by decide +kernel) rfl
theorem me_X6_buildDivisors : Cond.selects (yX6_buildDivisors).cls yX6_buildDivisors yX6_buildDivisors ∈ TT := tt_of 8 (by decide +kernel) rfl
theorem md_X6_buildDivisors : (yX6_buildDivisors).cls ≠ "java/lang/invoke/MethodHandle" ∧ (yX6_buildDivisors).cls ≠ "java/lang/invoke/VarHandle" ∧ (parseMethodDescriptor (yX6_buildDivisors).desc).map (fun d => d.parameters.length) = some 1 := (by decide +kernel)
theorem cv_X6_128 : CV RX6 128 6 yX6_buildDivisors cX6_buildDivisors 4 (some .boolean) 1 := ⟨⟨TX6, cls_X6⟩, tt_of 640 (by decide +kernel) rfl, mi_X6_buildDivisors, me_X6_buildDivisors, mn_X6_buildDivisors, mc_X6_buildDivisors, md_X6_buildDivisors, by decide⟩
theorem mc_X6_buildParts : Cond.code yX6_buildParts cX6_buildParts 4 (some .boolean) ∈ TT := tt_of 647 (by decide +kernel) rfl
theorem mn_X6_buildParts : Cond.initialized (yX6_buildParts).cls ∈ TT := tt_of 154 (by decide +kernel) rfl
theorem mi_X6_buildParts : Cond.instanceMethod yX6_buildParts ∈ TT := tt_of 646 (by decide +kernel) rfl
theorem me_X6_buildParts : Cond.selects (yX6_buildParts).cls yX6_buildParts yX6_buildParts ∈ TT := tt_of 9 (by decide +kernel) rfl
theorem md_X6_buildParts : (yX6_buildParts).cls ≠ "java/lang/invoke/MethodHandle" ∧ (yX6_buildParts).cls ≠ "java/lang/invoke/VarHandle" ∧ (parseMethodDescriptor (yX6_buildParts).desc).map (fun d => d.parameters.length) = some 1 := (by decide +kernel)
theorem cv_X6_131 : CV RX6 131 6 yX6_buildParts cX6_buildParts 4 (some .boolean) 1 := ⟨⟨TX6, cls_X6⟩, tt_of 644 (by decide +kernel) rfl, mi_X6_buildParts, me_X6_buildParts, mn_X6_buildParts, mc_X6_buildParts, md_X6_buildParts, by decide⟩
theorem mc_X6_isParting : Cond.code yX6_isParting cX6_isParting 5 (some .boolean) ∈ TT := tt_of 650 (by decide +kernel) rfl
theorem mn_X6_isParting : Cond.initialized (yX6_isParting).cls ∈ TT := tt_of 154 (by decide +kernel) rfl
theorem ms_X6_isParting : Cond.static yX6_isParting ∈ TT := tt_of 649 (by decide +kernel) rfl
theorem md_X6_isParting : (yX6_isParting).cls ≠ "java/lang/invoke/MethodHandle" ∧ (yX6_isParting).cls ≠ "java/lang/invoke/VarHandle" ∧ (parseMethodDescriptor (yX6_isParting).desc).map (fun d => d.parameters.length) = some 2 := (by decide +kernel)
theorem ct_X6_137 : CT RX6 137 yX6_isParting cX6_isParting 5 (some .boolean) 2 := ⟨tt_of 648 (by decide +kernel) rfl, ms_X6_isParting, mn_X6_isParting, mc_X6_isParting, md_X6_isParting, by decide⟩
theorem mc_X6_readLines : Cond.code yX6_readLines cX6_readLines 2 none ∈ TT := tt_of 654 (by decide +kernel) rfl
theorem mn_X6_readLines : Cond.initialized (yX6_readLines).cls ∈ TT := tt_of 154 (by decide +kernel) rfl
theorem mi_X6_readLines : Cond.instanceMethod yX6_readLines ∈ TT := tt_of 653 (by decide +kernel) rfl
theorem me_X6_readLines : Cond.selects (yX6_readLines).cls yX6_readLines yX6_readLines ∈ TT := tt_of 10 (by decide +kernel) rfl
theorem md_X6_readLines : (yX6_readLines).cls ≠ "java/lang/invoke/MethodHandle" ∧ (yX6_readLines).cls ≠ "java/lang/invoke/VarHandle" ∧ (parseMethodDescriptor (yX6_readLines).desc).map (fun d => d.parameters.length) = some 0 := (by decide +kernel)
theorem cv_X6_48 : CV RX6 48 6 yX6_readLines cX6_readLines 2 none 0 := ⟨⟨TX6, cls_X6⟩, tt_of 651 (by decide +kernel) rfl, mi_X6_readLines, me_X6_readLines, mn_X6_readLines, mc_X6_readLines, md_X6_readLines, by decide⟩
theorem mc_X6_readSign : Cond.code yX6_readSign cX6_readSign 2 none ∈ TT := tt_of 658 (by decide +kernel) rfl
theorem mn_X6_readSign : Cond.initialized (yX6_readSign).cls ∈ TT := tt_of 154 (by decide +kernel) rfl
theorem mi_X6_readSign : Cond.instanceMethod yX6_readSign ∈ TT := tt_of 657 (by decide +kernel) rfl
theorem me_X6_readSign : Cond.selects (yX6_readSign).cls yX6_readSign yX6_readSign ∈ TT := tt_of 11 (by decide +kernel) rfl
theorem md_X6_readSign : (yX6_readSign).cls ≠ "java/lang/invoke/MethodHandle" ∧ (yX6_readSign).cls ≠ "java/lang/invoke/VarHandle" ∧ (parseMethodDescriptor (yX6_readSign).desc).map (fun d => d.parameters.length) = some 1 := (by decide +kernel)
theorem cv_X6_104 : CV RX6 104 6 yX6_readSign cX6_readSign 2 none 1 := ⟨⟨TX6, cls_X6⟩, tt_of 655 (by decide +kernel) rfl, mi_X6_readSign, me_X6_readSign, mn_X6_readSign, mc_X6_readSign, md_X6_readSign, by decide⟩
theorem mc_X6_readLine : Cond.code yX6_readLine cX6_readLine 5 none ∈ TT := tt_of 662 (by decide +kernel) rfl
theorem mn_X6_readLine : Cond.initialized (yX6_readLine).cls ∈ TT := tt_of 154 (by decide +kernel) rfl
theorem mi_X6_readLine : Cond.instanceMethod yX6_readLine ∈ TT := tt_of 661 (by decide +kernel) rfl
theorem me_X6_readLine : Cond.selects (yX6_readLine).cls yX6_readLine yX6_readLine ∈ TT := tt_of 12 (by decide +kernel) rfl
theorem md_X6_readLine : (yX6_readLine).cls ≠ "java/lang/invoke/MethodHandle" ∧ (yX6_readLine).cls ≠ "java/lang/invoke/VarHandle" ∧ (parseMethodDescriptor (yX6_readLine).desc).map (fun d => d.parameters.length) = some 0 := (by decide +kernel)
theorem cv_X6_108 : CV RX6 108 6 yX6_readLine cX6_readLine 5 none 0 := ⟨⟨TX6, cls_X6⟩, tt_of 659 (by decide +kernel) rfl, mi_X6_readLine, me_X6_readLine, mn_X6_readLine, mc_X6_readLine, md_X6_readLine, by decide⟩
theorem mc_X6_readElement : Cond.code yX6_readElement cX6_readElement 2 (some .int) ∈ TT := tt_of 666 (by decide +kernel) rfl
theorem mn_X6_readElement : Cond.initialized (yX6_readElement).cls ∈ TT := tt_of 154 (by decide +kernel) rfl
theorem mi_X6_readElement : Cond.instanceMethod yX6_readElement ∈ TT := tt_of 665 (by decide +kernel) rfl
theorem me_X6_readElement : Cond.selects (yX6_readElement).cls yX6_readElement yX6_readElement ∈ TT := tt_of 13 (by decide +kernel) rfl
theorem md_X6_readElement : (yX6_readElement).cls ≠ "java/lang/invoke/MethodHandle" ∧ (yX6_readElement).cls ≠ "java/lang/invoke/VarHandle" ∧ (parseMethodDescriptor (yX6_readElement).desc).map (fun d => d.parameters.length) = some 0 := (by decide +kernel)
theorem cv_X6_111 : CV RX6 111 6 yX6_readElement cX6_readElement 2 (some .int) 0 := ⟨⟨TX6, cls_X6⟩, tt_of 663 (by decide +kernel) rfl, mi_X6_readElement, me_X6_readElement, mn_X6_readElement, mc_X6_readElement, md_X6_readElement, by decide⟩
theorem mc_X4_has : Cond.code yX4_has cX4_has 2 (some .boolean) ∈ TT := tt_of 670 (by decide +kernel) rfl
theorem mn_X4_has : Cond.initialized (yX4_has).cls ∈ TT := tt_of 153 (by decide +kernel) rfl
theorem mi_X4_has : Cond.instanceMethod yX4_has ∈ TT := tt_of 668 (by decide +kernel) rfl
theorem me_X4_has : Cond.selects (yX4_has).cls yX4_has yX4_has ∈ TT := tt_of 669 (by decide +kernel) rfl
theorem md_X4_has : (yX4_has).cls ≠ "java/lang/invoke/MethodHandle" ∧ (yX4_has).cls ≠ "java/lang/invoke/VarHandle" ∧ (parseMethodDescriptor (yX4_has).desc).map (fun d => d.parameters.length) = some 1 := (by decide +kernel)
theorem cv_X6_122 : CV RX6 122 4 yX4_has cX4_has 2 (some .boolean) 1 := ⟨⟨TX4, cls_X4⟩, tt_of 667 (by decide +kernel) rfl, mi_X4_has, me_X4_has, mn_X4_has, mc_X4_has, md_X4_has, by decide⟩
theorem mc_X4_atMost : Cond.code yX4_atMost cX4_atMost 3 (some .boolean) ∈ TT := tt_of 674 (by decide +kernel) rfl
theorem mn_X4_atMost : Cond.initialized (yX4_atMost).cls ∈ TT := tt_of 153 (by decide +kernel) rfl
theorem mi_X4_atMost : Cond.instanceMethod yX4_atMost ∈ TT := tt_of 672 (by decide +kernel) rfl
theorem me_X4_atMost : Cond.selects (yX4_atMost).cls yX4_atMost yX4_atMost ∈ TT := tt_of 673 (by decide +kernel) rfl
theorem md_X4_atMost : (yX4_atMost).cls ≠ "java/lang/invoke/MethodHandle" ∧ (yX4_atMost).cls ≠ "java/lang/invoke/VarHandle" ∧ (parseMethodDescriptor (yX4_atMost).desc).map (fun d => d.parameters.length) = some 2 := (by decide +kernel)
theorem cv_X6_114 : CV RX6 114 4 yX4_atMost cX4_atMost 3 (some .boolean) 2 := ⟨⟨TX4, cls_X4⟩, tt_of 671 (by decide +kernel) rfl, mi_X4_atMost, me_X4_atMost, mn_X4_atMost, mc_X4_atMost, md_X4_atMost, by decide⟩
theorem cv_X4_96 : CV RX4 96 4 yX4_has cX4_has 2 (some .boolean) 1 := ⟨⟨TX4, cls_X4⟩, tt_of 675 (by decide +kernel) rfl, mi_X4_has, me_X4_has, mn_X4_has, mc_X4_has, md_X4_has, by decide⟩
theorem mc_X4_isBelow : Cond.code yX4_isBelow cX4_isBelow 3 (some .boolean) ∈ TT := tt_of 679 (by decide +kernel) rfl
theorem mn_X4_isBelow : Cond.initialized (yX4_isBelow).cls ∈ TT := tt_of 153 (by decide +kernel) rfl
theorem mi_X4_isBelow : Cond.instanceMethod yX4_isBelow ∈ TT := tt_of 677 (by decide +kernel) rfl
theorem me_X4_isBelow : Cond.selects (yX4_isBelow).cls yX4_isBelow yX4_isBelow ∈ TT := tt_of 678 (by decide +kernel) rfl
theorem md_X4_isBelow : (yX4_isBelow).cls ≠ "java/lang/invoke/MethodHandle" ∧ (yX4_isBelow).cls ≠ "java/lang/invoke/VarHandle" ∧ (parseMethodDescriptor (yX4_isBelow).desc).map (fun d => d.parameters.length) = some 2 := (by decide +kernel)
theorem cv_X4_100 : CV RX4 100 4 yX4_isBelow cX4_isBelow 3 (some .boolean) 2 := ⟨⟨TX4, cls_X4⟩, tt_of 676 (by decide +kernel) rfl, mi_X4_isBelow, me_X4_isBelow, mn_X4_isBelow, mc_X4_isBelow, md_X4_isBelow, by decide⟩
theorem mc_X4_link : Cond.code yX4_link cX4_link 5 none ∈ TT := tt_of 683 (by decide +kernel) rfl
theorem mn_X4_link : Cond.initialized (yX4_link).cls ∈ TT := tt_of 153 (by decide +kernel) rfl
theorem mi_X4_link : Cond.instanceMethod yX4_link ∈ TT := tt_of 681 (by decide +kernel) rfl
theorem me_X4_link : Cond.selects (yX4_link).cls yX4_link yX4_link ∈ TT := tt_of 682 (by decide +kernel) rfl
theorem md_X4_link : (yX4_link).cls ≠ "java/lang/invoke/MethodHandle" ∧ (yX4_link).cls ≠ "java/lang/invoke/VarHandle" ∧ (parseMethodDescriptor (yX4_link).desc).map (fun d => d.parameters.length) = some 2 := (by decide +kernel)
theorem cv_X6_119 : CV RX6 119 4 yX4_link cX4_link 5 none 2 := ⟨⟨TX4, cls_X4⟩, tt_of 680 (by decide +kernel) rfl, mi_X4_link, me_X4_link, mn_X4_link, mc_X4_link, md_X4_link, by decide⟩
theorem mc_X4_from : Cond.code yX4_from cX4_from 2 (some .int) ∈ TT := tt_of 687 (by decide +kernel) rfl
theorem mn_X4_from : Cond.initialized (yX4_from).cls ∈ TT := tt_of 153 (by decide +kernel) rfl
theorem mi_X4_from : Cond.instanceMethod yX4_from ∈ TT := tt_of 685 (by decide +kernel) rfl
theorem me_X4_from : Cond.selects (yX4_from).cls yX4_from yX4_from ∈ TT := tt_of 686 (by decide +kernel) rfl
theorem md_X4_from : (yX4_from).cls ≠ "java/lang/invoke/MethodHandle" ∧ (yX4_from).cls ≠ "java/lang/invoke/VarHandle" ∧ (parseMethodDescriptor (yX4_from).desc).map (fun d => d.parameters.length) = some 1 := (by decide +kernel)
theorem cv_X4_53 : CV RX4 53 4 yX4_from cX4_from 2 (some .int) 1 := ⟨⟨TX4, cls_X4⟩, tt_of 684 (by decide +kernel) rfl, mi_X4_from, me_X4_from, mn_X4_from, mc_X4_from, md_X4_from, by decide⟩
theorem cv_X4_57 : CV RX4 57 4 yX4_atMost cX4_atMost 3 (some .boolean) 2 := ⟨⟨TX4, cls_X4⟩, tt_of 688 (by decide +kernel) rfl, mi_X4_atMost, me_X4_atMost, mn_X4_atMost, mc_X4_atMost, md_X4_atMost, by decide⟩
theorem mc_X11_adoptDraft : Cond.code yX11_adoptDraft cX11_adoptDraft 1 (some .int) ∈ TT := tt_of 692 (by decide +kernel) rfl
theorem mn_X11_adoptDraft : Cond.initialized (yX11_adoptDraft).cls ∈ TT := tt_of 151 (by decide +kernel) rfl
theorem mi_X11_adoptDraft : Cond.instanceMethod yX11_adoptDraft ∈ TT := tt_of 691 (by decide +kernel) rfl
theorem me_X11_adoptDraft : Cond.selects (yX11_adoptDraft).cls yX11_adoptDraft yX11_adoptDraft ∈ TT := tt_of 14 (by decide +kernel) rfl
theorem md_X11_adoptDraft : (yX11_adoptDraft).cls ≠ "java/lang/invoke/MethodHandle" ∧ (yX11_adoptDraft).cls ≠ "java/lang/invoke/VarHandle" ∧ (parseMethodDescriptor (yX11_adoptDraft).desc).map (fun d => d.parameters.length) = some 0 := (by decide +kernel)
theorem cv_X11_115 : CV RX11 115 11 yX11_adoptDraft cX11_adoptDraft 1 (some .int) 0 := ⟨⟨TX11, cls_X11⟩, tt_of 689 (by decide +kernel) rfl, mi_X11_adoptDraft, me_X11_adoptDraft, mn_X11_adoptDraft, mc_X11_adoptDraft, md_X11_adoptDraft, by decide⟩
theorem mc_X11_remember : Cond.code yX11_remember cX11_remember 2 none ∈ TT := tt_of 696 (by decide +kernel) rfl
theorem mn_X11_remember : Cond.initialized (yX11_remember).cls ∈ TT := tt_of 151 (by decide +kernel) rfl
theorem mi_X11_remember : Cond.instanceMethod yX11_remember ∈ TT := tt_of 695 (by decide +kernel) rfl
theorem me_X11_remember : Cond.selects (yX11_remember).cls yX11_remember yX11_remember ∈ TT := tt_of 15 (by decide +kernel) rfl
theorem md_X11_remember : (yX11_remember).cls ≠ "java/lang/invoke/MethodHandle" ∧ (yX11_remember).cls ≠ "java/lang/invoke/VarHandle" ∧ (parseMethodDescriptor (yX11_remember).desc).map (fun d => d.parameters.length) = some 0 := (by decide +kernel)
theorem cv_X11_188 : CV RX11 188 11 yX11_remember cX11_remember 2 none 0 := ⟨⟨TX11, cls_X11⟩, tt_of 693 (by decide +kernel) rfl, mi_X11_remember, me_X11_remember, mn_X11_remember, mc_X11_remember, md_X11_remember, by decide⟩
theorem mc_X1_push : Cond.code yX1_push cX1_push 2 (some (.object "OrderAlgebra$State")) ∈ TT := tt_of 700 (by decide +kernel) rfl
theorem mn_X1_push : Cond.initialized (yX1_push).cls ∈ TT := tt_of 162 (by decide +kernel) rfl
theorem mi_X1_push : Cond.instanceMethod yX1_push ∈ TT := tt_of 698 (by decide +kernel) rfl
theorem me_X1_push : Cond.selects (yX1_push).cls yX1_push yX1_push ∈ TT := tt_of 699 (by decide +kernel) rfl
theorem md_X1_push : (yX1_push).cls ≠ "java/lang/invoke/MethodHandle" ∧ (yX1_push).cls ≠ "java/lang/invoke/VarHandle" ∧ (parseMethodDescriptor (yX1_push).desc).map (fun d => d.parameters.length) = some 0 := (by decide +kernel)
theorem cv_X11_205 : CV RX11 205 1 yX1_push cX1_push 2 (some (.object "OrderAlgebra$State")) 0 := ⟨⟨TX1, cls_X1⟩, tt_of 697 (by decide +kernel) rfl, mi_X1_push, me_X1_push, mn_X1_push, mc_X1_push, md_X1_push, by decide⟩
theorem ct_X1_25 : CT RX1 25 yJ9_min_7cf53 cJ9_min_7cf53 2 (some .int) 2 := ⟨tt_of 729 (by decide +kernel) rfl, ms_J9_min_7cf53, mn_J9_min_7cf53, mc_J9_min_7cf53, md_J9_min_7cf53, by decide⟩
theorem mc_X4_copy : Cond.code yX4_copy cX4_copy 4 none ∈ TT := tt_of 736 (by decide +kernel) rfl
theorem mn_X4_copy : Cond.initialized (yX4_copy).cls ∈ TT := tt_of 153 (by decide +kernel) rfl
theorem mi_X4_copy : Cond.instanceMethod yX4_copy ∈ TT := tt_of 734 (by decide +kernel) rfl
theorem me_X4_copy : Cond.selects (yX4_copy).cls yX4_copy yX4_copy ∈ TT := tt_of 735 (by decide +kernel) rfl
theorem md_X4_copy : (yX4_copy).cls ≠ "java/lang/invoke/MethodHandle" ∧ (yX4_copy).cls ≠ "java/lang/invoke/VarHandle" ∧ (parseMethodDescriptor (yX4_copy).desc).map (fun d => d.parameters.length) = some 2 := (by decide +kernel)
theorem cv_X11_134 : CV RX11 134 4 yX4_copy cX4_copy 4 none 2 := ⟨⟨TX4, cls_X4⟩, tt_of 733 (by decide +kernel) rfl, mi_X4_copy, me_X4_copy, mn_X4_copy, mc_X4_copy, md_X4_copy, by decide⟩
theorem cv_X4_49 : CV RX4 49 4 yX4_begin cX4_begin 2 none 1 := ⟨⟨TX4, cls_X4⟩, tt_of 737 (by decide +kernel) rfl, mi_X4_begin, me_X4_begin, mn_X4_begin, mc_X4_begin, md_X4_begin, by decide⟩
theorem mc_X4_derive : Cond.code yX4_derive cX4_derive 1 none ∈ TT := tt_of 741 (by decide +kernel) rfl
theorem mn_X4_derive : Cond.initialized (yX4_derive).cls ∈ TT := tt_of 153 (by decide +kernel) rfl
theorem mi_X4_derive : Cond.instanceMethod yX4_derive ∈ TT := tt_of 739 (by decide +kernel) rfl
theorem me_X4_derive : Cond.selects (yX4_derive).cls yX4_derive yX4_derive ∈ TT := tt_of 740 (by decide +kernel) rfl
theorem md_X4_derive : (yX4_derive).cls ≠ "java/lang/invoke/MethodHandle" ∧ (yX4_derive).cls ≠ "java/lang/invoke/VarHandle" ∧ (parseMethodDescriptor (yX4_derive).desc).map (fun d => d.parameters.length) = some 0 := (by decide +kernel)
theorem cv_X11_176 : CV RX11 176 4 yX4_derive cX4_derive 1 none 0 := ⟨⟨TX4, cls_X4⟩, tt_of 738 (by decide +kernel) rfl, mi_X4_derive, me_X4_derive, mn_X4_derive, mc_X4_derive, md_X4_derive, by decide⟩
theorem mc_X4_deriveBeneath : Cond.code yX4_deriveBeneath cX4_deriveBeneath 3 none ∈ TT := tt_of 745 (by decide +kernel) rfl
theorem mn_X4_deriveBeneath : Cond.initialized (yX4_deriveBeneath).cls ∈ TT := tt_of 153 (by decide +kernel) rfl
theorem mi_X4_deriveBeneath : Cond.instanceMethod yX4_deriveBeneath ∈ TT := tt_of 744 (by decide +kernel) rfl
theorem me_X4_deriveBeneath : Cond.selects (yX4_deriveBeneath).cls yX4_deriveBeneath yX4_deriveBeneath ∈ TT := tt_of 16 (by decide +kernel) rfl
theorem md_X4_deriveBeneath : (yX4_deriveBeneath).cls ≠ "java/lang/invoke/MethodHandle" ∧ (yX4_deriveBeneath).cls ≠ "java/lang/invoke/VarHandle" ∧ (parseMethodDescriptor (yX4_deriveBeneath).desc).map (fun d => d.parameters.length) = some 0 := (by decide +kernel)
theorem cv_X4_84 : CV RX4 84 4 yX4_deriveBeneath cX4_deriveBeneath 3 none 0 := ⟨⟨TX4, cls_X4⟩, tt_of 742 (by decide +kernel) rfl, mi_X4_deriveBeneath, me_X4_deriveBeneath, mn_X4_deriveBeneath, mc_X4_deriveBeneath, md_X4_deriveBeneath, by decide⟩
theorem mc_X4_deriveCovers : Cond.code yX4_deriveCovers cX4_deriveCovers 3 none ∈ TT := tt_of 749 (by decide +kernel) rfl
theorem mn_X4_deriveCovers : Cond.initialized (yX4_deriveCovers).cls ∈ TT := tt_of 153 (by decide +kernel) rfl
theorem mi_X4_deriveCovers : Cond.instanceMethod yX4_deriveCovers ∈ TT := tt_of 748 (by decide +kernel) rfl
theorem me_X4_deriveCovers : Cond.selects (yX4_deriveCovers).cls yX4_deriveCovers yX4_deriveCovers ∈ TT := tt_of 17 (by decide +kernel) rfl
theorem md_X4_deriveCovers : (yX4_deriveCovers).cls ≠ "java/lang/invoke/MethodHandle" ∧ (yX4_deriveCovers).cls ≠ "java/lang/invoke/VarHandle" ∧ (parseMethodDescriptor (yX4_deriveCovers).desc).map (fun d => d.parameters.length) = some 0 := (by decide +kernel)
theorem cv_X4_87 : CV RX4 87 4 yX4_deriveCovers cX4_deriveCovers 3 none 0 := ⟨⟨TX4, cls_X4⟩, tt_of 746 (by decide +kernel) rfl, mi_X4_deriveCovers, me_X4_deriveCovers, mn_X4_deriveCovers, mc_X4_deriveCovers, md_X4_deriveCovers, by decide⟩
theorem mc_X4_deriveRow : Cond.code yX4_deriveRow cX4_deriveRow 4 none ∈ TT := tt_of 753 (by decide +kernel) rfl
theorem mn_X4_deriveRow : Cond.initialized (yX4_deriveRow).cls ∈ TT := tt_of 153 (by decide +kernel) rfl
theorem mi_X4_deriveRow : Cond.instanceMethod yX4_deriveRow ∈ TT := tt_of 752 (by decide +kernel) rfl
theorem me_X4_deriveRow : Cond.selects (yX4_deriveRow).cls yX4_deriveRow yX4_deriveRow ∈ TT := tt_of 18 (by decide +kernel) rfl
theorem md_X4_deriveRow : (yX4_deriveRow).cls ≠ "java/lang/invoke/MethodHandle" ∧ (yX4_deriveRow).cls ≠ "java/lang/invoke/VarHandle" ∧ (parseMethodDescriptor (yX4_deriveRow).desc).map (fun d => d.parameters.length) = some 0 := (by decide +kernel)
theorem cv_X4_90 : CV RX4 90 4 yX4_deriveRow cX4_deriveRow 4 none 0 := ⟨⟨TX4, cls_X4⟩, tt_of 750 (by decide +kernel) rfl, mi_X4_deriveRow, me_X4_deriveRow, mn_X4_deriveRow, mc_X4_deriveRow, md_X4_deriveRow, by decide⟩
theorem mc_J6_bitCount_0f7a4 : Cond.code yJ6_bitCount_0f7a4 cJ6_bitCount_0f7a4 1 (some .int) ∈ TT := tt_of 756 (by decide +kernel) rfl
theorem mn_J6_bitCount_0f7a4 : Cond.initialized (yJ6_bitCount_0f7a4).cls ∈ TT := tt_of 171 (by decide +kernel) rfl
theorem ms_J6_bitCount_0f7a4 : Cond.static yJ6_bitCount_0f7a4 ∈ TT := tt_of 755 (by decide +kernel) rfl
theorem md_J6_bitCount_0f7a4 : (yJ6_bitCount_0f7a4).cls ≠ "java/lang/invoke/MethodHandle" ∧ (yJ6_bitCount_0f7a4).cls ≠ "java/lang/invoke/VarHandle" ∧ (parseMethodDescriptor (yJ6_bitCount_0f7a4).desc).map (fun d => d.parameters.length) = some 1 := (by decide +kernel)
theorem ct_X4_71 : CT RX4 71 yJ6_bitCount_0f7a4 cJ6_bitCount_0f7a4 1 (some .int) 1 := ⟨tt_of 754 (by decide +kernel) rfl, ms_J6_bitCount_0f7a4, mn_J6_bitCount_0f7a4, mc_J6_bitCount_0f7a4, md_J6_bitCount_0f7a4, by decide⟩
theorem mc_X4_deriveHeights : Cond.code yX4_deriveHeights cX4_deriveHeights 5 none ∈ TT := tt_of 763 (by decide +kernel) rfl
theorem mn_X4_deriveHeights : Cond.initialized (yX4_deriveHeights).cls ∈ TT := tt_of 153 (by decide +kernel) rfl
theorem mi_X4_deriveHeights : Cond.instanceMethod yX4_deriveHeights ∈ TT := tt_of 762 (by decide +kernel) rfl
theorem me_X4_deriveHeights : Cond.selects (yX4_deriveHeights).cls yX4_deriveHeights yX4_deriveHeights ∈ TT := tt_of 19 (by decide +kernel) rfl
theorem md_X4_deriveHeights : (yX4_deriveHeights).cls ≠ "java/lang/invoke/MethodHandle" ∧ (yX4_deriveHeights).cls ≠ "java/lang/invoke/VarHandle" ∧ (parseMethodDescriptor (yX4_deriveHeights).desc).map (fun d => d.parameters.length) = some 0 := (by decide +kernel)
theorem cv_X4_93 : CV RX4 93 4 yX4_deriveHeights cX4_deriveHeights 5 none 0 := ⟨⟨TX4, cls_X4⟩, tt_of 760 (by decide +kernel) rfl, mi_X4_deriveHeights, me_X4_deriveHeights, mn_X4_deriveHeights, mc_X4_deriveHeights, md_X4_deriveHeights, by decide⟩
theorem mc_X11_forgetReckoned : Cond.code yX11_forgetReckoned cX11_forgetReckoned 1 none ∈ TT := tt_of 767 (by decide +kernel) rfl
theorem mn_X11_forgetReckoned : Cond.initialized (yX11_forgetReckoned).cls ∈ TT := tt_of 151 (by decide +kernel) rfl
theorem mi_X11_forgetReckoned : Cond.instanceMethod yX11_forgetReckoned ∈ TT := tt_of 766 (by decide +kernel) rfl
theorem me_X11_forgetReckoned : Cond.selects (yX11_forgetReckoned).cls yX11_forgetReckoned yX11_forgetReckoned ∈ TT := tt_of 20 (by decide +kernel) rfl
theorem md_X11_forgetReckoned : (yX11_forgetReckoned).cls ≠ "java/lang/invoke/MethodHandle" ∧ (yX11_forgetReckoned).cls ≠ "java/lang/invoke/VarHandle" ∧ (parseMethodDescriptor (yX11_forgetReckoned).desc).map (fun d => d.parameters.length) = some 0 := (by decide +kernel)
theorem cv_X11_191 : CV RX11 191 11 yX11_forgetReckoned cX11_forgetReckoned 1 none 0 := ⟨⟨TX11, cls_X11⟩, tt_of 764 (by decide +kernel) rfl, mi_X11_forgetReckoned, me_X11_forgetReckoned, mn_X11_forgetReckoned, mc_X11_forgetReckoned, md_X11_forgetReckoned, by decide⟩
theorem mc_X2_forget : Cond.code yX2_forget cX2_forget 1 none ∈ TT := tt_of 771 (by decide +kernel) rfl
theorem mn_X2_forget : Cond.initialized (yX2_forget).cls ∈ TT := tt_of 160 (by decide +kernel) rfl
theorem mi_X2_forget : Cond.instanceMethod yX2_forget ∈ TT := tt_of 769 (by decide +kernel) rfl
theorem me_X2_forget : Cond.selects (yX2_forget).cls yX2_forget yX2_forget ∈ TT := tt_of 770 (by decide +kernel) rfl
theorem md_X2_forget : (yX2_forget).cls ≠ "java/lang/invoke/MethodHandle" ∧ (yX2_forget).cls ≠ "java/lang/invoke/VarHandle" ∧ (parseMethodDescriptor (yX2_forget).desc).map (fun d => d.parameters.length) = some 0 := (by decide +kernel)
theorem cv_X11_201 : CV RX11 201 2 yX2_forget cX2_forget 1 none 0 := ⟨⟨TX2, cls_X2⟩, tt_of 768 (by decide +kernel) rfl, mi_X2_forget, me_X2_forget, mn_X2_forget, mc_X2_forget, md_X2_forget, by decide⟩
theorem mc_X7_forget : Cond.code yX7_forget cX7_forget 1 none ∈ TT := tt_of 775 (by decide +kernel) rfl
theorem mn_X7_forget : Cond.initialized (yX7_forget).cls ∈ TT := tt_of 161 (by decide +kernel) rfl
theorem mi_X7_forget : Cond.instanceMethod yX7_forget ∈ TT := tt_of 773 (by decide +kernel) rfl
theorem me_X7_forget : Cond.selects (yX7_forget).cls yX7_forget yX7_forget ∈ TT := tt_of 774 (by decide +kernel) rfl
theorem md_X7_forget : (yX7_forget).cls ≠ "java/lang/invoke/MethodHandle" ∧ (yX7_forget).cls ≠ "java/lang/invoke/VarHandle" ∧ (parseMethodDescriptor (yX7_forget).desc).map (fun d => d.parameters.length) = some 0 := (by decide +kernel)
theorem cv_X11_204 : CV RX11 204 7 yX7_forget cX7_forget 1 none 0 := ⟨⟨TX7, cls_X7⟩, tt_of 772 (by decide +kernel) rfl, mi_X7_forget, me_X7_forget, mn_X7_forget, mc_X7_forget, md_X7_forget, by decide⟩
theorem mc_X0_clear : Cond.code yX0_clear cX0_clear 1 none ∈ TT := tt_of 779 (by decide +kernel) rfl
theorem mn_X0_clear : Cond.initialized (yX0_clear).cls ∈ TT := tt_of 156 (by decide +kernel) rfl
theorem mi_X0_clear : Cond.instanceMethod yX0_clear ∈ TT := tt_of 777 (by decide +kernel) rfl
theorem me_X0_clear : Cond.selects (yX0_clear).cls yX0_clear yX0_clear ∈ TT := tt_of 778 (by decide +kernel) rfl
theorem md_X0_clear : (yX0_clear).cls ≠ "java/lang/invoke/MethodHandle" ∧ (yX0_clear).cls ≠ "java/lang/invoke/VarHandle" ∧ (parseMethodDescriptor (yX0_clear).desc).map (fun d => d.parameters.length) = some 0 := (by decide +kernel)
theorem cv_X11_194 : CV RX11 194 0 yX0_clear cX0_clear 1 none 0 := ⟨⟨TX0, cls_X0⟩, tt_of 776 (by decide +kernel) rfl, mi_X0_clear, me_X0_clear, mn_X0_clear, mc_X0_clear, md_X0_clear, by decide⟩
theorem mc_J7_fill_d0a16 : Cond.code yJ7_fill_d0a16 cJ7_fill_d0a16 5 none ∈ TT := tt_of 782 (by decide +kernel) rfl
theorem mn_J7_fill_d0a16 : Cond.initialized (yJ7_fill_d0a16).cls ∈ TT := tt_of 158 (by decide +kernel) rfl
theorem ms_J7_fill_d0a16 : Cond.static yJ7_fill_d0a16 ∈ TT := tt_of 781 (by decide +kernel) rfl
theorem md_J7_fill_d0a16 : (yJ7_fill_d0a16).cls ≠ "java/lang/invoke/MethodHandle" ∧ (yJ7_fill_d0a16).cls ≠ "java/lang/invoke/VarHandle" ∧ (parseMethodDescriptor (yJ7_fill_d0a16).desc).map (fun d => d.parameters.length) = some 2 := (by decide +kernel)
theorem ct_X0_36 : CT RX0 36 yJ7_fill_d0a16 cJ7_fill_d0a16 5 none 2 := ⟨tt_of 780 (by decide +kernel) rfl, ms_J7_fill_d0a16, mn_J7_fill_d0a16, mc_J7_fill_d0a16, md_J7_fill_d0a16, by decide⟩
theorem ct_X11_195 : CT RX11 195 yJ7_fill_d0a16 cJ7_fill_d0a16 5 none 2 := ⟨tt_of 783 (by decide +kernel) rfl, ms_J7_fill_d0a16, mn_J7_fill_d0a16, mc_J7_fill_d0a16, md_J7_fill_d0a16, by decide⟩
theorem mc_X3_clear : Cond.code yX3_clear cX3_clear 1 none ∈ TT := tt_of 787 (by decide +kernel) rfl
theorem mn_X3_clear : Cond.initialized (yX3_clear).cls ∈ TT := tt_of 157 (by decide +kernel) rfl
theorem mi_X3_clear : Cond.instanceMethod yX3_clear ∈ TT := tt_of 785 (by decide +kernel) rfl
theorem me_X3_clear : Cond.selects (yX3_clear).cls yX3_clear yX3_clear ∈ TT := tt_of 786 (by decide +kernel) rfl
theorem md_X3_clear : (yX3_clear).cls ≠ "java/lang/invoke/MethodHandle" ∧ (yX3_clear).cls ≠ "java/lang/invoke/VarHandle" ∧ (parseMethodDescriptor (yX3_clear).desc).map (fun d => d.parameters.length) = some 0 := (by decide +kernel)
theorem cv_X11_182 : CV RX11 182 3 yX3_clear cX3_clear 1 none 0 := ⟨⟨TX3, cls_X3⟩, tt_of 784 (by decide +kernel) rfl, mi_X3_clear, me_X3_clear, mn_X3_clear, mc_X3_clear, md_X3_clear, by decide⟩
theorem mc_X11_relate : Cond.code yX11_relate cX11_relate 3 (some .int) ∈ TT := tt_of 791 (by decide +kernel) rfl
theorem mn_X11_relate : Cond.initialized (yX11_relate).cls ∈ TT := tt_of 151 (by decide +kernel) rfl
theorem mi_X11_relate : Cond.instanceMethod yX11_relate ∈ TT := tt_of 789 (by decide +kernel) rfl
theorem me_X11_relate : Cond.selects (yX11_relate).cls yX11_relate yX11_relate ∈ TT := tt_of 790 (by decide +kernel) rfl
theorem md_X11_relate : (yX11_relate).cls ≠ "java/lang/invoke/MethodHandle" ∧ (yX11_relate).cls ≠ "java/lang/invoke/VarHandle" ∧ (parseMethodDescriptor (yX11_relate).desc).map (fun d => d.parameters.length) = some 2 := (by decide +kernel)
theorem cv_L_28 : CV RL 28 11 yX11_relate cX11_relate 3 (some .int) 2 := ⟨⟨TX11, cls_X11⟩, tt_of 788 (by decide +kernel) rfl, mi_X11_relate, me_X11_relate, mn_X11_relate, mc_X11_relate, md_X11_relate, by decide⟩
theorem cv_X11_118 : CV RX11 118 4 yX4_has cX4_has 2 (some .boolean) 1 := ⟨⟨TX4, cls_X4⟩, tt_of 792 (by decide +kernel) rfl, mi_X4_has, me_X4_has, mn_X4_has, mc_X4_has, md_X4_has, by decide⟩
theorem cv_X11_122 : CV RX11 122 4 yX4_isBelow cX4_isBelow 3 (some .boolean) 2 := ⟨⟨TX4, cls_X4⟩, tt_of 793 (by decide +kernel) rfl, mi_X4_isBelow, me_X4_isBelow, mn_X4_isBelow, mc_X4_isBelow, md_X4_isBelow, by decide⟩
theorem cv_X11_126 : CV RX11 126 4 yX4_atMost cX4_atMost 3 (some .boolean) 2 := ⟨⟨TX4, cls_X4⟩, tt_of 794 (by decide +kernel) rfl, mi_X4_atMost, me_X4_atMost, mn_X4_atMost, mc_X4_atMost, md_X4_atMost, by decide⟩
theorem cv_X11_138 : CV RX11 138 4 yX4_link cX4_link 5 none 2 := ⟨⟨TX4, cls_X4⟩, tt_of 795 (by decide +kernel) rfl, mi_X4_link, me_X4_link, mn_X4_link, mc_X4_link, md_X4_link, by decide⟩
theorem mc_X4_pairs : Cond.code yX4_pairs cX4_pairs 4 (some .int) ∈ TT := tt_of 799 (by decide +kernel) rfl
theorem mn_X4_pairs : Cond.initialized (yX4_pairs).cls ∈ TT := tt_of 153 (by decide +kernel) rfl
theorem mi_X4_pairs : Cond.instanceMethod yX4_pairs ∈ TT := tt_of 797 (by decide +kernel) rfl
theorem me_X4_pairs : Cond.selects (yX4_pairs).cls yX4_pairs yX4_pairs ∈ TT := tt_of 798 (by decide +kernel) rfl
theorem md_X4_pairs : (yX4_pairs).cls ≠ "java/lang/invoke/MethodHandle" ∧ (yX4_pairs).cls ≠ "java/lang/invoke/VarHandle" ∧ (parseMethodDescriptor (yX4_pairs).desc).map (fun d => d.parameters.length) = some 1 := (by decide +kernel)
theorem cv_X11_145 : CV RX11 145 4 yX4_pairs cX4_pairs 4 (some .int) 1 := ⟨⟨TX4, cls_X4⟩, tt_of 796 (by decide +kernel) rfl, mi_X4_pairs, me_X4_pairs, mn_X4_pairs, mc_X4_pairs, md_X4_pairs, by decide⟩
theorem mc_X11_form : Cond.code yX11_form cX11_form 5 (some .int) ∈ TT := tt_of 803 (by decide +kernel) rfl
theorem mn_X11_form : Cond.initialized (yX11_form).cls ∈ TT := tt_of 151 (by decide +kernel) rfl
theorem mi_X11_form : Cond.instanceMethod yX11_form ∈ TT := tt_of 801 (by decide +kernel) rfl
theorem me_X11_form : Cond.selects (yX11_form).cls yX11_form yX11_form ∈ TT := tt_of 802 (by decide +kernel) rfl
theorem md_X11_form : (yX11_form).cls ≠ "java/lang/invoke/MethodHandle" ∧ (yX11_form).cls ≠ "java/lang/invoke/VarHandle" ∧ (parseMethodDescriptor (yX11_form).desc).map (fun d => d.parameters.length) = some 3 := (by decide +kernel)
theorem cv_L_33 : CV RL 33 11 yX11_form cX11_form 5 (some .int) 3 := ⟨⟨TX11, cls_X11⟩, tt_of 800 (by decide +kernel) rfl, mi_X11_form, me_X11_form, mn_X11_form, mc_X11_form, md_X11_form, by decide⟩
theorem mc_X11_formWithKept : Cond.code yX11_formWithKept cX11_formWithKept 5 (some .int) ∈ TT := tt_of 807 (by decide +kernel) rfl
theorem mn_X11_formWithKept : Cond.initialized (yX11_formWithKept).cls ∈ TT := tt_of 151 (by decide +kernel) rfl
theorem mi_X11_formWithKept : Cond.instanceMethod yX11_formWithKept ∈ TT := tt_of 806 (by decide +kernel) rfl
theorem me_X11_formWithKept : Cond.selects (yX11_formWithKept).cls yX11_formWithKept yX11_formWithKept ∈ TT := tt_of 21 (by decide +kernel) rfl
theorem md_X11_formWithKept : (yX11_formWithKept).cls ≠ "java/lang/invoke/MethodHandle" ∧ (yX11_formWithKept).cls ≠ "java/lang/invoke/VarHandle" ∧ (parseMethodDescriptor (yX11_formWithKept).desc).map (fun d => d.parameters.length) = some 2 := (by decide +kernel)
theorem cv_X11_149 : CV RX11 149 11 yX11_formWithKept cX11_formWithKept 5 (some .int) 2 := ⟨⟨TX11, cls_X11⟩, tt_of 804 (by decide +kernel) rfl, mi_X11_formWithKept, me_X11_formWithKept, mn_X11_formWithKept, mc_X11_formWithKept, md_X11_formWithKept, by decide⟩
theorem mc_X11_isKept : Cond.code yX11_isKept cX11_isKept 2 (some .boolean) ∈ TT := tt_of 811 (by decide +kernel) rfl
theorem mn_X11_isKept : Cond.initialized (yX11_isKept).cls ∈ TT := tt_of 151 (by decide +kernel) rfl
theorem mi_X11_isKept : Cond.instanceMethod yX11_isKept ∈ TT := tt_of 810 (by decide +kernel) rfl
theorem me_X11_isKept : Cond.selects (yX11_isKept).cls yX11_isKept yX11_isKept ∈ TT := tt_of 22 (by decide +kernel) rfl
theorem md_X11_isKept : (yX11_isKept).cls ≠ "java/lang/invoke/MethodHandle" ∧ (yX11_isKept).cls ≠ "java/lang/invoke/VarHandle" ∧ (parseMethodDescriptor (yX11_isKept).desc).map (fun d => d.parameters.length) = some 1 := (by decide +kernel)
theorem cv_X11_166 : CV RX11 166 11 yX11_isKept cX11_isKept 2 (some .boolean) 1 := ⟨⟨TX11, cls_X11⟩, tt_of 808 (by decide +kernel) rfl, mi_X11_isKept, me_X11_isKept, mn_X11_isKept, mc_X11_isKept, md_X11_isKept, by decide⟩
theorem mc_X4_becomePairs : Cond.code yX4_becomePairs cX4_becomePairs 6 none ∈ TT := tt_of 815 (by decide +kernel) rfl
theorem mn_X4_becomePairs : Cond.initialized (yX4_becomePairs).cls ∈ TT := tt_of 153 (by decide +kernel) rfl
theorem mi_X4_becomePairs : Cond.instanceMethod yX4_becomePairs ∈ TT := tt_of 813 (by decide +kernel) rfl
theorem me_X4_becomePairs : Cond.selects (yX4_becomePairs).cls yX4_becomePairs yX4_becomePairs ∈ TT := tt_of 814 (by decide +kernel) rfl
theorem md_X4_becomePairs : (yX4_becomePairs).cls ≠ "java/lang/invoke/MethodHandle" ∧ (yX4_becomePairs).cls ≠ "java/lang/invoke/VarHandle" ∧ (parseMethodDescriptor (yX4_becomePairs).desc).map (fun d => d.parameters.length) = some 2 := (by decide +kernel)
theorem cv_X11_169 : CV RX11 169 4 yX4_becomePairs cX4_becomePairs 6 none 2 := ⟨⟨TX4, cls_X4⟩, tt_of 812 (by decide +kernel) rfl, mi_X4_becomePairs, me_X4_becomePairs, mn_X4_becomePairs, mc_X4_becomePairs, md_X4_becomePairs, by decide⟩
theorem mc_X4_pairsFrom : Cond.code yX4_pairsFrom cX4_pairsFrom 6 (some .int) ∈ TT := tt_of 818 (by decide +kernel) rfl
theorem mn_X4_pairsFrom : Cond.initialized (yX4_pairsFrom).cls ∈ TT := tt_of 153 (by decide +kernel) rfl
theorem ms_X4_pairsFrom : Cond.static yX4_pairsFrom ∈ TT := tt_of 817 (by decide +kernel) rfl
theorem md_X4_pairsFrom : (yX4_pairsFrom).cls ≠ "java/lang/invoke/MethodHandle" ∧ (yX4_pairsFrom).cls ≠ "java/lang/invoke/VarHandle" ∧ (parseMethodDescriptor (yX4_pairsFrom).desc).map (fun d => d.parameters.length) = some 4 := (by decide +kernel)
theorem ct_X4_80 : CT RX4 80 yX4_pairsFrom cX4_pairsFrom 6 (some .int) 4 := ⟨tt_of 816 (by decide +kernel) rfl, ms_X4_pairsFrom, mn_X4_pairsFrom, mc_X4_pairsFrom, md_X4_pairsFrom, by decide⟩
theorem mc_X4_becomeBoth : Cond.code yX4_becomeBoth cX4_becomeBoth 6 none ∈ TT := tt_of 822 (by decide +kernel) rfl
theorem mn_X4_becomeBoth : Cond.initialized (yX4_becomeBoth).cls ∈ TT := tt_of 153 (by decide +kernel) rfl
theorem mi_X4_becomeBoth : Cond.instanceMethod yX4_becomeBoth ∈ TT := tt_of 820 (by decide +kernel) rfl
theorem me_X4_becomeBoth : Cond.selects (yX4_becomeBoth).cls yX4_becomeBoth yX4_becomeBoth ∈ TT := tt_of 821 (by decide +kernel) rfl
theorem md_X4_becomeBoth : (yX4_becomeBoth).cls ≠ "java/lang/invoke/MethodHandle" ∧ (yX4_becomeBoth).cls ≠ "java/lang/invoke/VarHandle" ∧ (parseMethodDescriptor (yX4_becomeBoth).desc).map (fun d => d.parameters.length) = some 3 := (by decide +kernel)
theorem cv_X11_172 : CV RX11 172 4 yX4_becomeBoth cX4_becomeBoth 6 none 3 := ⟨⟨TX4, cls_X4⟩, tt_of 819 (by decide +kernel) rfl, mi_X4_becomeBoth, me_X4_becomeBoth, mn_X4_becomeBoth, mc_X4_becomeBoth, md_X4_becomeBoth, by decide⟩
theorem mc_X4_all : Cond.code yX4_all cX4_all 1 (some .int) ∈ TT := tt_of 826 (by decide +kernel) rfl
theorem mn_X4_all : Cond.initialized (yX4_all).cls ∈ TT := tt_of 153 (by decide +kernel) rfl
theorem mi_X4_all : Cond.instanceMethod yX4_all ∈ TT := tt_of 824 (by decide +kernel) rfl
theorem me_X4_all : Cond.selects (yX4_all).cls yX4_all yX4_all ∈ TT := tt_of 825 (by decide +kernel) rfl
theorem md_X4_all : (yX4_all).cls ≠ "java/lang/invoke/MethodHandle" ∧ (yX4_all).cls ≠ "java/lang/invoke/VarHandle" ∧ (parseMethodDescriptor (yX4_all).desc).map (fun d => d.parameters.length) = some 0 := (by decide +kernel)
theorem cv_X4_67 : CV RX4 67 4 yX4_all cX4_all 1 (some .int) 0 := ⟨⟨TX4, cls_X4⟩, tt_of 823 (by decide +kernel) rfl, mi_X4_all, me_X4_all, mn_X4_all, mc_X4_all, md_X4_all, by decide⟩
theorem mc_X4_becomeTurned : Cond.code yX4_becomeTurned cX4_becomeTurned 2 none ∈ TT := tt_of 830 (by decide +kernel) rfl
theorem mn_X4_becomeTurned : Cond.initialized (yX4_becomeTurned).cls ∈ TT := tt_of 153 (by decide +kernel) rfl
theorem mi_X4_becomeTurned : Cond.instanceMethod yX4_becomeTurned ∈ TT := tt_of 828 (by decide +kernel) rfl
theorem me_X4_becomeTurned : Cond.selects (yX4_becomeTurned).cls yX4_becomeTurned yX4_becomeTurned ∈ TT := tt_of 829 (by decide +kernel) rfl
theorem md_X4_becomeTurned : (yX4_becomeTurned).cls ≠ "java/lang/invoke/MethodHandle" ∧ (yX4_becomeTurned).cls ≠ "java/lang/invoke/VarHandle" ∧ (parseMethodDescriptor (yX4_becomeTurned).desc).map (fun d => d.parameters.length) = some 1 := (by decide +kernel)
theorem cv_X11_153 : CV RX11 153 4 yX4_becomeTurned cX4_becomeTurned 2 none 1 := ⟨⟨TX4, cls_X4⟩, tt_of 827 (by decide +kernel) rfl, mi_X4_becomeTurned, me_X4_becomeTurned, mn_X4_becomeTurned, mc_X4_becomeTurned, md_X4_becomeTurned, by decide⟩
theorem mc_X4_between : Cond.code yX4_between cX4_between 3 (some .int) ∈ TT := tt_of 835 (by decide +kernel) rfl
theorem mn_X4_between : Cond.initialized (yX4_between).cls ∈ TT := tt_of 153 (by decide +kernel) rfl
theorem mi_X4_between : Cond.instanceMethod yX4_between ∈ TT := tt_of 833 (by decide +kernel) rfl
theorem me_X4_between : Cond.selects (yX4_between).cls yX4_between yX4_between ∈ TT := tt_of 834 (by decide +kernel) rfl
theorem md_X4_between : (yX4_between).cls ≠ "java/lang/invoke/MethodHandle" ∧ (yX4_between).cls ≠ "java/lang/invoke/VarHandle" ∧ (parseMethodDescriptor (yX4_between).desc).map (fun d => d.parameters.length) = some 2 := (by decide +kernel)
theorem cv_X11_156 : CV RX11 156 4 yX4_between cX4_between 3 (some .int) 2 := ⟨⟨TX4, cls_X4⟩, tt_of 832 (by decide +kernel) rfl, mi_X4_between, me_X4_between, mn_X4_between, mc_X4_between, md_X4_between, by decide⟩
theorem mc_X4_upTo : Cond.code yX4_upTo cX4_upTo 2 (some .int) ∈ TT := tt_of 839 (by decide +kernel) rfl
theorem mn_X4_upTo : Cond.initialized (yX4_upTo).cls ∈ TT := tt_of 153 (by decide +kernel) rfl
theorem mi_X4_upTo : Cond.instanceMethod yX4_upTo ∈ TT := tt_of 837 (by decide +kernel) rfl
theorem me_X4_upTo : Cond.selects (yX4_upTo).cls yX4_upTo yX4_upTo ∈ TT := tt_of 838 (by decide +kernel) rfl
theorem md_X4_upTo : (yX4_upTo).cls ≠ "java/lang/invoke/MethodHandle" ∧ (yX4_upTo).cls ≠ "java/lang/invoke/VarHandle" ∧ (parseMethodDescriptor (yX4_upTo).desc).map (fun d => d.parameters.length) = some 1 := (by decide +kernel)
theorem cv_X4_103 : CV RX4 103 4 yX4_upTo cX4_upTo 2 (some .int) 1 := ⟨⟨TX4, cls_X4⟩, tt_of 836 (by decide +kernel) rfl, mi_X4_upTo, me_X4_upTo, mn_X4_upTo, mc_X4_upTo, md_X4_upTo, by decide⟩
theorem cv_X11_159 : CV RX11 159 4 yX4_all cX4_all 1 (some .int) 0 := ⟨⟨TX4, cls_X4⟩, tt_of 840 (by decide +kernel) rfl, mi_X4_all, me_X4_all, mn_X4_all, mc_X4_all, md_X4_all, by decide⟩
theorem mc_X4_becomePart : Cond.code yX4_becomePart cX4_becomePart 5 none ∈ TT := tt_of 844 (by decide +kernel) rfl
theorem mn_X4_becomePart : Cond.initialized (yX4_becomePart).cls ∈ TT := tt_of 153 (by decide +kernel) rfl
theorem mi_X4_becomePart : Cond.instanceMethod yX4_becomePart ∈ TT := tt_of 842 (by decide +kernel) rfl
theorem me_X4_becomePart : Cond.selects (yX4_becomePart).cls yX4_becomePart yX4_becomePart ∈ TT := tt_of 843 (by decide +kernel) rfl
theorem md_X4_becomePart : (yX4_becomePart).cls ≠ "java/lang/invoke/MethodHandle" ∧ (yX4_becomePart).cls ≠ "java/lang/invoke/VarHandle" ∧ (parseMethodDescriptor (yX4_becomePart).desc).map (fun d => d.parameters.length) = some 2 := (by decide +kernel)
theorem cv_X11_162 : CV RX11 162 4 yX4_becomePart cX4_becomePart 5 none 2 := ⟨⟨TX4, cls_X4⟩, tt_of 841 (by decide +kernel) rfl, mi_X4_becomePart, me_X4_becomePart, mn_X4_becomePart, mc_X4_becomePart, md_X4_becomePart, by decide⟩
theorem mc_X4_packed : Cond.code yX4_packed cX4_packed 6 (some .int) ∈ TT := tt_of 847 (by decide +kernel) rfl
theorem mn_X4_packed : Cond.initialized (yX4_packed).cls ∈ TT := tt_of 153 (by decide +kernel) rfl
theorem ms_X4_packed : Cond.static yX4_packed ∈ TT := tt_of 846 (by decide +kernel) rfl
theorem md_X4_packed : (yX4_packed).cls ≠ "java/lang/invoke/MethodHandle" ∧ (yX4_packed).cls ≠ "java/lang/invoke/VarHandle" ∧ (parseMethodDescriptor (yX4_packed).desc).map (fun d => d.parameters.length) = some 3 := (by decide +kernel)
theorem ct_X4_76 : CT RX4 76 yX4_packed cX4_packed 6 (some .int) 3 := ⟨tt_of 845 (by decide +kernel) rfl, ms_X4_packed, mn_X4_packed, mc_X4_packed, md_X4_packed, by decide⟩
theorem mc_X11_keep : Cond.code yX11_keep cX11_keep 2 (some .int) ∈ TT := tt_of 851 (by decide +kernel) rfl
theorem mn_X11_keep : Cond.initialized (yX11_keep).cls ∈ TT := tt_of 151 (by decide +kernel) rfl
theorem mi_X11_keep : Cond.instanceMethod yX11_keep ∈ TT := tt_of 849 (by decide +kernel) rfl
theorem me_X11_keep : Cond.selects (yX11_keep).cls yX11_keep yX11_keep ∈ TT := tt_of 850 (by decide +kernel) rfl
theorem md_X11_keep : (yX11_keep).cls ≠ "java/lang/invoke/MethodHandle" ∧ (yX11_keep).cls ≠ "java/lang/invoke/VarHandle" ∧ (parseMethodDescriptor (yX11_keep).desc).map (fun d => d.parameters.length) = some 1 := (by decide +kernel)
theorem cv_L_74 : CV RL 74 11 yX11_keep cX11_keep 2 (some .int) 1 := ⟨⟨TX11, cls_X11⟩, tt_of 848 (by decide +kernel) rfl, mi_X11_keep, me_X11_keep, mn_X11_keep, mc_X11_keep, md_X11_keep, by decide⟩
theorem mc_X11_undo : Cond.code yX11_undo cX11_undo 2 (some .int) ∈ TT := tt_of 855 (by decide +kernel) rfl
theorem mn_X11_undo : Cond.initialized (yX11_undo).cls ∈ TT := tt_of 151 (by decide +kernel) rfl
theorem mi_X11_undo : Cond.instanceMethod yX11_undo ∈ TT := tt_of 853 (by decide +kernel) rfl
theorem me_X11_undo : Cond.selects (yX11_undo).cls yX11_undo yX11_undo ∈ TT := tt_of 854 (by decide +kernel) rfl
theorem md_X11_undo : (yX11_undo).cls ≠ "java/lang/invoke/MethodHandle" ∧ (yX11_undo).cls ≠ "java/lang/invoke/VarHandle" ∧ (parseMethodDescriptor (yX11_undo).desc).map (fun d => d.parameters.length) = some 0 := (by decide +kernel)
theorem cv_L_70 : CV RL 70 11 yX11_undo cX11_undo 2 (some .int) 0 := ⟨⟨TX11, cls_X11⟩, tt_of 852 (by decide +kernel) rfl, mi_X11_undo, me_X11_undo, mn_X11_undo, mc_X11_undo, md_X11_undo, by decide⟩
theorem mc_X1_pop : Cond.code yX1_pop cX1_pop 1 (some (.object "OrderAlgebra$State")) ∈ TT := tt_of 859 (by decide +kernel) rfl
theorem mn_X1_pop : Cond.initialized (yX1_pop).cls ∈ TT := tt_of 162 (by decide +kernel) rfl
theorem mi_X1_pop : Cond.instanceMethod yX1_pop ∈ TT := tt_of 857 (by decide +kernel) rfl
theorem me_X1_pop : Cond.selects (yX1_pop).cls yX1_pop yX1_pop ∈ TT := tt_of 858 (by decide +kernel) rfl
theorem md_X1_pop : (yX1_pop).cls ≠ "java/lang/invoke/MethodHandle" ∧ (yX1_pop).cls ≠ "java/lang/invoke/VarHandle" ∧ (parseMethodDescriptor (yX1_pop).desc).map (fun d => d.parameters.length) = some 0 := (by decide +kernel)
theorem cv_X11_229 : CV RX11 229 1 yX1_pop cX1_pop 1 (some (.object "OrderAlgebra$State")) 0 := ⟨⟨TX1, cls_X1⟩, tt_of 856 (by decide +kernel) rfl, mi_X1_pop, me_X1_pop, mn_X1_pop, mc_X1_pop, md_X1_pop, by decide⟩
theorem mc_X4_isTold : Cond.code yX4_isTold cX4_isTold 4 (some .boolean) ∈ TT := tt_of 863 (by decide +kernel) rfl
theorem mn_X4_isTold : Cond.initialized (yX4_isTold).cls ∈ TT := tt_of 153 (by decide +kernel) rfl
theorem mi_X4_isTold : Cond.instanceMethod yX4_isTold ∈ TT := tt_of 861 (by decide +kernel) rfl
theorem me_X4_isTold : Cond.selects (yX4_isTold).cls yX4_isTold yX4_isTold ∈ TT := tt_of 862 (by decide +kernel) rfl
theorem md_X4_isTold : (yX4_isTold).cls ≠ "java/lang/invoke/MethodHandle" ∧ (yX4_isTold).cls ≠ "java/lang/invoke/VarHandle" ∧ (parseMethodDescriptor (yX4_isTold).desc).map (fun d => d.parameters.length) = some 2 := (by decide +kernel)
theorem cv_X11_232 : CV RX11 232 4 yX4_isTold cX4_isTold 4 (some .boolean) 2 := ⟨⟨TX4, cls_X4⟩, tt_of 860 (by decide +kernel) rfl, mi_X4_isTold, me_X4_isTold, mn_X4_isTold, mc_X4_isTold, md_X4_isTold, by decide⟩
theorem mc_X11_make : Cond.code yX11_make cX11_make 3 (some .int) ∈ TT := tt_of 867 (by decide +kernel) rfl
theorem mn_X11_make : Cond.initialized (yX11_make).cls ∈ TT := tt_of 151 (by decide +kernel) rfl
theorem mi_X11_make : Cond.instanceMethod yX11_make ∈ TT := tt_of 865 (by decide +kernel) rfl
theorem me_X11_make : Cond.selects (yX11_make).cls yX11_make yX11_make ∈ TT := tt_of 866 (by decide +kernel) rfl
theorem md_X11_make : (yX11_make).cls ≠ "java/lang/invoke/MethodHandle" ∧ (yX11_make).cls ≠ "java/lang/invoke/VarHandle" ∧ (parseMethodDescriptor (yX11_make).desc).map (fun d => d.parameters.length) = some 2 := (by decide +kernel)
theorem cv_L_38 : CV RL 38 11 yX11_make cX11_make 3 (some .int) 2 := ⟨⟨TX11, cls_X11⟩, tt_of 864 (by decide +kernel) rfl, mi_X11_make, me_X11_make, mn_X11_make, mc_X11_make, md_X11_make, by decide⟩
theorem mc_X11_isFunction : Cond.code yX11_isFunction cX11_isFunction 1 (some .boolean) ∈ TT := tt_of 870 (by decide +kernel) rfl
theorem mn_X11_isFunction : Cond.initialized (yX11_isFunction).cls ∈ TT := tt_of 151 (by decide +kernel) rfl
theorem ms_X11_isFunction : Cond.static yX11_isFunction ∈ TT := tt_of 869 (by decide +kernel) rfl
theorem md_X11_isFunction : (yX11_isFunction).cls ≠ "java/lang/invoke/MethodHandle" ∧ (yX11_isFunction).cls ≠ "java/lang/invoke/VarHandle" ∧ (parseMethodDescriptor (yX11_isFunction).desc).map (fun d => d.parameters.length) = some 1 := (by decide +kernel)
theorem ct_X11_237 : CT RX11 237 yX11_isFunction cX11_isFunction 1 (some .boolean) 1 := ⟨tt_of 868 (by decide +kernel) rfl, ms_X11_isFunction, mn_X11_isFunction, mc_X11_isFunction, md_X11_isFunction, by decide⟩
theorem mc_X0_reckonKind : Cond.code yX0_reckonKind cX0_reckonKind 4 none ∈ TT := tt_of 874 (by decide +kernel) rfl
theorem mn_X0_reckonKind : Cond.initialized (yX0_reckonKind).cls ∈ TT := tt_of 156 (by decide +kernel) rfl
theorem mi_X0_reckonKind : Cond.instanceMethod yX0_reckonKind ∈ TT := tt_of 872 (by decide +kernel) rfl
theorem me_X0_reckonKind : Cond.selects (yX0_reckonKind).cls yX0_reckonKind yX0_reckonKind ∈ TT := tt_of 873 (by decide +kernel) rfl
theorem md_X0_reckonKind : (yX0_reckonKind).cls ≠ "java/lang/invoke/MethodHandle" ∧ (yX0_reckonKind).cls ≠ "java/lang/invoke/VarHandle" ∧ (parseMethodDescriptor (yX0_reckonKind).desc).map (fun d => d.parameters.length) = some 1 := (by decide +kernel)
theorem cv_X11_240 : CV RX11 240 0 yX0_reckonKind cX0_reckonKind 4 none 1 := ⟨⟨TX0, cls_X0⟩, tt_of 871 (by decide +kernel) rfl, mi_X0_reckonKind, me_X0_reckonKind, mn_X0_reckonKind, mc_X0_reckonKind, md_X0_reckonKind, by decide⟩
theorem mc_X4_moebiusFrom : Cond.code yX4_moebiusFrom cX4_moebiusFrom 5 none ∈ TT := tt_of 878 (by decide +kernel) rfl
theorem mn_X4_moebiusFrom : Cond.initialized (yX4_moebiusFrom).cls ∈ TT := tt_of 153 (by decide +kernel) rfl
theorem mi_X4_moebiusFrom : Cond.instanceMethod yX4_moebiusFrom ∈ TT := tt_of 876 (by decide +kernel) rfl
theorem me_X4_moebiusFrom : Cond.selects (yX4_moebiusFrom).cls yX4_moebiusFrom yX4_moebiusFrom ∈ TT := tt_of 877 (by decide +kernel) rfl
theorem md_X4_moebiusFrom : (yX4_moebiusFrom).cls ≠ "java/lang/invoke/MethodHandle" ∧ (yX4_moebiusFrom).cls ≠ "java/lang/invoke/VarHandle" ∧ (parseMethodDescriptor (yX4_moebiusFrom).desc).map (fun d => d.parameters.length) = some 2 := (by decide +kernel)
theorem cv_X0_54 : CV RX0 54 4 yX4_moebiusFrom cX4_moebiusFrom 5 none 2 := ⟨⟨TX4, cls_X4⟩, tt_of 875 (by decide +kernel) rfl, mi_X4_moebiusFrom, me_X4_moebiusFrom, mn_X4_moebiusFrom, mc_X4_moebiusFrom, md_X4_moebiusFrom, by decide⟩
theorem mc_X4_sumOf : Cond.code yX4_sumOf cX4_sumOf 6 (some .long) ∈ TT := tt_of 882 (by decide +kernel) rfl
theorem mn_X4_sumOf : Cond.initialized (yX4_sumOf).cls ∈ TT := tt_of 153 (by decide +kernel) rfl
theorem mi_X4_sumOf : Cond.instanceMethod yX4_sumOf ∈ TT := tt_of 881 (by decide +kernel) rfl
theorem me_X4_sumOf : Cond.selects (yX4_sumOf).cls yX4_sumOf yX4_sumOf ∈ TT := tt_of 23 (by decide +kernel) rfl
theorem md_X4_sumOf : (yX4_sumOf).cls ≠ "java/lang/invoke/MethodHandle" ∧ (yX4_sumOf).cls ≠ "java/lang/invoke/VarHandle" ∧ (parseMethodDescriptor (yX4_sumOf).desc).map (fun d => d.parameters.length) = some 2 := (by decide +kernel)
theorem cv_X4_115 : CV RX4 115 4 yX4_sumOf cX4_sumOf 6 (some .long) 2 := ⟨⟨TX4, cls_X4⟩, tt_of 879 (by decide +kernel) rfl, mi_X4_sumOf, me_X4_sumOf, mn_X4_sumOf, mc_X4_sumOf, md_X4_sumOf, by decide⟩
theorem cv_X0_58 : CV RX0 58 4 yX4_atMost cX4_atMost 3 (some .boolean) 2 := ⟨⟨TX4, cls_X4⟩, tt_of 883 (by decide +kernel) rfl, mi_X4_atMost, me_X4_atMost, mn_X4_atMost, mc_X4_atMost, md_X4_atMost, by decide⟩
theorem mc_X0_cell : Cond.code yX0_cell cX0_cell 3 (some .int) ∈ TT := tt_of 886 (by decide +kernel) rfl
theorem mn_X0_cell : Cond.initialized (yX0_cell).cls ∈ TT := tt_of 156 (by decide +kernel) rfl
theorem ms_X0_cell : Cond.static yX0_cell ∈ TT := tt_of 885 (by decide +kernel) rfl
theorem md_X0_cell : (yX0_cell).cls ≠ "java/lang/invoke/MethodHandle" ∧ (yX0_cell).cls ≠ "java/lang/invoke/VarHandle" ∧ (parseMethodDescriptor (yX0_cell).desc).map (fun d => d.parameters.length) = some 3 := (by decide +kernel)
theorem ct_X0_32 : CT RX0 32 yX0_cell cX0_cell 3 (some .int) 3 := ⟨tt_of 884 (by decide +kernel) rfl, ms_X0_cell, mn_X0_cell, mc_X0_cell, md_X0_cell, by decide⟩
theorem mc_X0_ofKind : Cond.code yX0_ofKind cX0_ofKind 4 (some .long) ∈ TT := tt_of 890 (by decide +kernel) rfl
theorem mn_X0_ofKind : Cond.initialized (yX0_ofKind).cls ∈ TT := tt_of 156 (by decide +kernel) rfl
theorem mi_X0_ofKind : Cond.instanceMethod yX0_ofKind ∈ TT := tt_of 889 (by decide +kernel) rfl
theorem me_X0_ofKind : Cond.selects (yX0_ofKind).cls yX0_ofKind yX0_ofKind ∈ TT := tt_of 24 (by decide +kernel) rfl
theorem md_X0_ofKind : (yX0_ofKind).cls ≠ "java/lang/invoke/MethodHandle" ∧ (yX0_ofKind).cls ≠ "java/lang/invoke/VarHandle" ∧ (parseMethodDescriptor (yX0_ofKind).desc).map (fun d => d.parameters.length) = some 3 := (by decide +kernel)
theorem cv_X0_62 : CV RX0 62 0 yX0_ofKind cX0_ofKind 4 (some .long) 3 := ⟨⟨TX0, cls_X0⟩, tt_of 887 (by decide +kernel) rfl, mi_X0_ofKind, me_X0_ofKind, mn_X0_ofKind, mc_X0_ofKind, md_X0_ofKind, by decide⟩
theorem cv_X0_70 : CV RX0 70 4 yX4_between cX4_between 3 (some .int) 2 := ⟨⟨TX4, cls_X4⟩, tt_of 891 (by decide +kernel) rfl, mi_X4_between, me_X4_between, mn_X4_between, mc_X4_between, md_X4_between, by decide⟩
theorem ct_X0_74 : CT RX0 74 yJ6_bitCount_0f7a4 cJ6_bitCount_0f7a4 1 (some .int) 1 := ⟨tt_of 892 (by decide +kernel) rfl, ms_J6_bitCount_0f7a4, mn_J6_bitCount_0f7a4, mc_J6_bitCount_0f7a4, md_J6_bitCount_0f7a4, by decide⟩
theorem mc_X11_storeReckoned : Cond.code yX11_storeReckoned cX11_storeReckoned 3 (some .int) ∈ TT := tt_of 896 (by decide +kernel) rfl
theorem mn_X11_storeReckoned : Cond.initialized (yX11_storeReckoned).cls ∈ TT := tt_of 151 (by decide +kernel) rfl
theorem mi_X11_storeReckoned : Cond.instanceMethod yX11_storeReckoned ∈ TT := tt_of 895 (by decide +kernel) rfl
theorem me_X11_storeReckoned : Cond.selects (yX11_storeReckoned).cls yX11_storeReckoned yX11_storeReckoned ∈ TT := tt_of 25 (by decide +kernel) rfl
theorem md_X11_storeReckoned : (yX11_storeReckoned).cls ≠ "java/lang/invoke/MethodHandle" ∧ (yX11_storeReckoned).cls ≠ "java/lang/invoke/VarHandle" ∧ (parseMethodDescriptor (yX11_storeReckoned).desc).map (fun d => d.parameters.length) = some 2 := (by decide +kernel)
theorem cv_X11_243 : CV RX11 243 11 yX11_storeReckoned cX11_storeReckoned 3 (some .int) 2 := ⟨⟨TX11, cls_X11⟩, tt_of 893 (by decide +kernel) rfl, mi_X11_storeReckoned, me_X11_storeReckoned, mn_X11_storeReckoned, mc_X11_storeReckoned, md_X11_storeReckoned, by decide⟩
theorem mc_X0_store : Cond.code yX0_store cX0_store 2 none ∈ TT := tt_of 900 (by decide +kernel) rfl
theorem mn_X0_store : Cond.initialized (yX0_store).cls ∈ TT := tt_of 156 (by decide +kernel) rfl
theorem mi_X0_store : Cond.instanceMethod yX0_store ∈ TT := tt_of 898 (by decide +kernel) rfl
theorem me_X0_store : Cond.selects (yX0_store).cls yX0_store yX0_store ∈ TT := tt_of 899 (by decide +kernel) rfl
theorem md_X0_store : (yX0_store).cls ≠ "java/lang/invoke/MethodHandle" ∧ (yX0_store).cls ≠ "java/lang/invoke/VarHandle" ∧ (parseMethodDescriptor (yX0_store).desc).map (fun d => d.parameters.length) = some 1 := (by decide +kernel)
theorem cv_X11_278 : CV RX11 278 0 yX0_store cX0_store 2 none 1 := ⟨⟨TX0, cls_X0⟩, tt_of 897 (by decide +kernel) rfl, mi_X0_store, me_X0_store, mn_X0_store, mc_X0_store, md_X0_store, by decide⟩
theorem mc_X11_put : Cond.code yX11_put cX11_put 5 (some .int) ∈ TT := tt_of 905 (by decide +kernel) rfl
theorem mn_X11_put : Cond.initialized (yX11_put).cls ∈ TT := tt_of 151 (by decide +kernel) rfl
theorem mi_X11_put : Cond.instanceMethod yX11_put ∈ TT := tt_of 903 (by decide +kernel) rfl
theorem me_X11_put : Cond.selects (yX11_put).cls yX11_put yX11_put ∈ TT := tt_of 904 (by decide +kernel) rfl
theorem md_X11_put : (yX11_put).cls ≠ "java/lang/invoke/MethodHandle" ∧ (yX11_put).cls ≠ "java/lang/invoke/VarHandle" ∧ (parseMethodDescriptor (yX11_put).desc).map (fun d => d.parameters.length) = some 4 := (by decide +kernel)
theorem cv_L_42 : CV RL 42 11 yX11_put cX11_put 5 (some .int) 4 := ⟨⟨TX11, cls_X11⟩, tt_of 902 (by decide +kernel) rfl, mi_X11_put, me_X11_put, mn_X11_put, mc_X11_put, md_X11_put, by decide⟩
theorem mc_X0_at : Cond.code yX0_at cX0_at 4 (some .long) ∈ TT := tt_of 909 (by decide +kernel) rfl
theorem mn_X0_at : Cond.initialized (yX0_at).cls ∈ TT := tt_of 156 (by decide +kernel) rfl
theorem mi_X0_at : Cond.instanceMethod yX0_at ∈ TT := tt_of 907 (by decide +kernel) rfl
theorem me_X0_at : Cond.selects (yX0_at).cls yX0_at yX0_at ∈ TT := tt_of 908 (by decide +kernel) rfl
theorem md_X0_at : (yX0_at).cls ≠ "java/lang/invoke/MethodHandle" ∧ (yX0_at).cls ≠ "java/lang/invoke/VarHandle" ∧ (parseMethodDescriptor (yX0_at).desc).map (fun d => d.parameters.length) = some 3 := (by decide +kernel)
theorem cv_X11_246 : CV RX11 246 0 yX0_at cX0_at 4 (some .long) 3 := ⟨⟨TX0, cls_X0⟩, tt_of 906 (by decide +kernel) rfl, mi_X0_at, me_X0_at, mn_X0_at, mc_X0_at, md_X0_at, by decide⟩
theorem ct_X11_250 : CT RX11 250 yX0_cell cX0_cell 3 (some .int) 3 := ⟨tt_of 910 (by decide +kernel) rfl, ms_X0_cell, mn_X0_cell, mc_X0_cell, md_X0_cell, by decide⟩
theorem mc_X11_reckon : Cond.code yX11_reckon cX11_reckon 5 (some .int) ∈ TT := tt_of 914 (by decide +kernel) rfl
theorem mn_X11_reckon : Cond.initialized (yX11_reckon).cls ∈ TT := tt_of 151 (by decide +kernel) rfl
theorem mi_X11_reckon : Cond.instanceMethod yX11_reckon ∈ TT := tt_of 912 (by decide +kernel) rfl
theorem me_X11_reckon : Cond.selects (yX11_reckon).cls yX11_reckon yX11_reckon ∈ TT := tt_of 913 (by decide +kernel) rfl
theorem md_X11_reckon : (yX11_reckon).cls ≠ "java/lang/invoke/MethodHandle" ∧ (yX11_reckon).cls ≠ "java/lang/invoke/VarHandle" ∧ (parseMethodDescriptor (yX11_reckon).desc).map (fun d => d.parameters.length) = some 4 := (by decide +kernel)
theorem cv_L_47 : CV RL 47 11 yX11_reckon cX11_reckon 5 (some .int) 4 := ⟨⟨TX11, cls_X11⟩, tt_of 911 (by decide +kernel) rfl, mi_X11_reckon, me_X11_reckon, mn_X11_reckon, mc_X11_reckon, md_X11_reckon, by decide⟩
theorem mc_X9_begin : Cond.code yX9_begin cX9_begin 1 none ∈ TT := tt_of 918 (by decide +kernel) rfl
theorem mn_X9_begin : Cond.initialized (yX9_begin).cls ∈ TT := tt_of 155 (by decide +kernel) rfl
theorem mi_X9_begin : Cond.instanceMethod yX9_begin ∈ TT := tt_of 916 (by decide +kernel) rfl
theorem me_X9_begin : Cond.selects (yX9_begin).cls yX9_begin yX9_begin ∈ TT := tt_of 917 (by decide +kernel) rfl
theorem md_X9_begin : (yX9_begin).cls ≠ "java/lang/invoke/MethodHandle" ∧ (yX9_begin).cls ≠ "java/lang/invoke/VarHandle" ∧ (parseMethodDescriptor (yX9_begin).desc).map (fun d => d.parameters.length) = some 0 := (by decide +kernel)
theorem cv_X11_254 : CV RX11 254 9 yX9_begin cX9_begin 1 none 0 := ⟨⟨TX9, cls_X9⟩, tt_of 915 (by decide +kernel) rfl, mi_X9_begin, me_X9_begin, mn_X9_begin, mc_X9_begin, md_X9_begin, by decide⟩
theorem mc_X0_reckonProduct : Cond.code yX0_reckonProduct cX0_reckonProduct 8 none ∈ TT := tt_of 922 (by decide +kernel) rfl
theorem mn_X0_reckonProduct : Cond.initialized (yX0_reckonProduct).cls ∈ TT := tt_of 156 (by decide +kernel) rfl
theorem mi_X0_reckonProduct : Cond.instanceMethod yX0_reckonProduct ∈ TT := tt_of 920 (by decide +kernel) rfl
theorem me_X0_reckonProduct : Cond.selects (yX0_reckonProduct).cls yX0_reckonProduct yX0_reckonProduct ∈ TT := tt_of 921 (by decide +kernel) rfl
theorem md_X0_reckonProduct : (yX0_reckonProduct).cls ≠ "java/lang/invoke/MethodHandle" ∧ (yX0_reckonProduct).cls ≠ "java/lang/invoke/VarHandle" ∧ (parseMethodDescriptor (yX0_reckonProduct).desc).map (fun d => d.parameters.length) = some 3 := (by decide +kernel)
theorem cv_X11_257 : CV RX11 257 0 yX0_reckonProduct cX0_reckonProduct 8 none 3 := ⟨⟨TX0, cls_X0⟩, tt_of 919 (by decide +kernel) rfl, mi_X0_reckonProduct, me_X0_reckonProduct, mn_X0_reckonProduct, mc_X0_reckonProduct, md_X0_reckonProduct, by decide⟩
theorem cv_X0_97 : CV RX0 97 0 yX0_at cX0_at 4 (some .long) 3 := ⟨⟨TX0, cls_X0⟩, tt_of 923 (by decide +kernel) rfl, mi_X0_at, me_X0_at, mn_X0_at, mc_X0_at, md_X0_at, by decide⟩
theorem mc_X9_addProduct : Cond.code yX9_addProduct cX9_addProduct 5 none ∈ TT := tt_of 927 (by decide +kernel) rfl
theorem mn_X9_addProduct : Cond.initialized (yX9_addProduct).cls ∈ TT := tt_of 155 (by decide +kernel) rfl
theorem mi_X9_addProduct : Cond.instanceMethod yX9_addProduct ∈ TT := tt_of 925 (by decide +kernel) rfl
theorem me_X9_addProduct : Cond.selects (yX9_addProduct).cls yX9_addProduct yX9_addProduct ∈ TT := tt_of 926 (by decide +kernel) rfl
theorem md_X9_addProduct : (yX9_addProduct).cls ≠ "java/lang/invoke/MethodHandle" ∧ (yX9_addProduct).cls ≠ "java/lang/invoke/VarHandle" ∧ (parseMethodDescriptor (yX9_addProduct).desc).map (fun d => d.parameters.length) = some 2 := (by decide +kernel)
theorem cv_X0_86 : CV RX0 86 9 yX9_addProduct cX9_addProduct 5 none 2 := ⟨⟨TX9, cls_X9⟩, tt_of 924 (by decide +kernel) rfl, mi_X9_addProduct, me_X9_addProduct, mn_X9_addProduct, mc_X9_addProduct, md_X9_addProduct, by decide⟩
theorem mc_X9_isTooLarge : Cond.code yX9_isTooLarge cX9_isTooLarge 4 (some .boolean) ∈ TT := tt_of 930 (by decide +kernel) rfl
theorem mn_X9_isTooLarge : Cond.initialized (yX9_isTooLarge).cls ∈ TT := tt_of 155 (by decide +kernel) rfl
theorem ms_X9_isTooLarge : Cond.static yX9_isTooLarge ∈ TT := tt_of 929 (by decide +kernel) rfl
theorem md_X9_isTooLarge : (yX9_isTooLarge).cls ≠ "java/lang/invoke/MethodHandle" ∧ (yX9_isTooLarge).cls ≠ "java/lang/invoke/VarHandle" ∧ (parseMethodDescriptor (yX9_isTooLarge).desc).map (fun d => d.parameters.length) = some 2 := (by decide +kernel)
theorem ct_X9_17 : CT RX9 17 yX9_isTooLarge cX9_isTooLarge 4 (some .boolean) 2 := ⟨tt_of 928 (by decide +kernel) rfl, ms_X9_isTooLarge, mn_X9_isTooLarge, mc_X9_isTooLarge, md_X9_isTooLarge, by decide⟩
theorem mc_X9_add : Cond.code yX9_add cX9_add 5 none ∈ TT := tt_of 936 (by decide +kernel) rfl
theorem mn_X9_add : Cond.initialized (yX9_add).cls ∈ TT := tt_of 155 (by decide +kernel) rfl
theorem mi_X9_add : Cond.instanceMethod yX9_add ∈ TT := tt_of 934 (by decide +kernel) rfl
theorem me_X9_add : Cond.selects (yX9_add).cls yX9_add yX9_add ∈ TT := tt_of 935 (by decide +kernel) rfl
theorem md_X9_add : (yX9_add).cls ≠ "java/lang/invoke/MethodHandle" ∧ (yX9_add).cls ≠ "java/lang/invoke/VarHandle" ∧ (parseMethodDescriptor (yX9_add).desc).map (fun d => d.parameters.length) = some 1 := (by decide +kernel)
theorem cv_X9_21 : CV RX9 21 9 yX9_add cX9_add 5 none 1 := ⟨⟨TX9, cls_X9⟩, tt_of 933 (by decide +kernel) rfl, mi_X9_add, me_X9_add, mn_X9_add, mc_X9_add, md_X9_add, by decide⟩
theorem mc_X0_reckonEach : Cond.code yX0_reckonEach cX0_reckonEach 9 none ∈ TT := tt_of 940 (by decide +kernel) rfl
theorem mn_X0_reckonEach : Cond.initialized (yX0_reckonEach).cls ∈ TT := tt_of 156 (by decide +kernel) rfl
theorem mi_X0_reckonEach : Cond.instanceMethod yX0_reckonEach ∈ TT := tt_of 938 (by decide +kernel) rfl
theorem me_X0_reckonEach : Cond.selects (yX0_reckonEach).cls yX0_reckonEach yX0_reckonEach ∈ TT := tt_of 939 (by decide +kernel) rfl
theorem md_X0_reckonEach : (yX0_reckonEach).cls ≠ "java/lang/invoke/MethodHandle" ∧ (yX0_reckonEach).cls ≠ "java/lang/invoke/VarHandle" ∧ (parseMethodDescriptor (yX0_reckonEach).desc).map (fun d => d.parameters.length) = some 3 := (by decide +kernel)
theorem cv_X11_261 : CV RX11 261 0 yX0_reckonEach cX0_reckonEach 9 none 3 := ⟨⟨TX0, cls_X0⟩, tt_of 937 (by decide +kernel) rfl, mi_X0_reckonEach, me_X0_reckonEach, mn_X0_reckonEach, mc_X0_reckonEach, md_X0_reckonEach, by decide⟩
theorem cv_X0_90 : CV RX0 90 9 yX9_add cX9_add 5 none 1 := ⟨⟨TX9, cls_X9⟩, tt_of 941 (by decide +kernel) rfl, mi_X9_add, me_X9_add, mn_X9_add, mc_X9_add, md_X9_add, by decide⟩
theorem mc_X9_subtract : Cond.code yX9_subtract cX9_subtract 5 none ∈ TT := tt_of 945 (by decide +kernel) rfl
theorem mn_X9_subtract : Cond.initialized (yX9_subtract).cls ∈ TT := tt_of 155 (by decide +kernel) rfl
theorem mi_X9_subtract : Cond.instanceMethod yX9_subtract ∈ TT := tt_of 943 (by decide +kernel) rfl
theorem me_X9_subtract : Cond.selects (yX9_subtract).cls yX9_subtract yX9_subtract ∈ TT := tt_of 944 (by decide +kernel) rfl
theorem md_X9_subtract : (yX9_subtract).cls ≠ "java/lang/invoke/MethodHandle" ∧ (yX9_subtract).cls ≠ "java/lang/invoke/VarHandle" ∧ (parseMethodDescriptor (yX9_subtract).desc).map (fun d => d.parameters.length) = some 1 := (by decide +kernel)
theorem cv_X0_94 : CV RX0 94 9 yX9_subtract cX9_subtract 5 none 1 := ⟨⟨TX9, cls_X9⟩, tt_of 942 (by decide +kernel) rfl, mi_X9_subtract, me_X9_subtract, mn_X9_subtract, mc_X9_subtract, md_X9_subtract, by decide⟩
theorem mc_X11_invert : Cond.code yX11_invert cX11_invert 3 (some .int) ∈ TT := tt_of 949 (by decide +kernel) rfl
theorem mn_X11_invert : Cond.initialized (yX11_invert).cls ∈ TT := tt_of 151 (by decide +kernel) rfl
theorem mi_X11_invert : Cond.instanceMethod yX11_invert ∈ TT := tt_of 947 (by decide +kernel) rfl
theorem me_X11_invert : Cond.selects (yX11_invert).cls yX11_invert yX11_invert ∈ TT := tt_of 948 (by decide +kernel) rfl
theorem md_X11_invert : (yX11_invert).cls ≠ "java/lang/invoke/MethodHandle" ∧ (yX11_invert).cls ≠ "java/lang/invoke/VarHandle" ∧ (parseMethodDescriptor (yX11_invert).desc).map (fun d => d.parameters.length) = some 2 := (by decide +kernel)
theorem cv_L_51 : CV RL 51 11 yX11_invert cX11_invert 3 (some .int) 2 := ⟨⟨TX11, cls_X11⟩, tt_of 946 (by decide +kernel) rfl, mi_X11_invert, me_X11_invert, mn_X11_invert, mc_X11_invert, md_X11_invert, by decide⟩
theorem mc_X0_isInvertible : Cond.code yX0_isInvertible cX0_isInvertible 5 (some .boolean) ∈ TT := tt_of 953 (by decide +kernel) rfl
theorem mn_X0_isInvertible : Cond.initialized (yX0_isInvertible).cls ∈ TT := tt_of 156 (by decide +kernel) rfl
theorem mi_X0_isInvertible : Cond.instanceMethod yX0_isInvertible ∈ TT := tt_of 951 (by decide +kernel) rfl
theorem me_X0_isInvertible : Cond.selects (yX0_isInvertible).cls yX0_isInvertible yX0_isInvertible ∈ TT := tt_of 952 (by decide +kernel) rfl
theorem md_X0_isInvertible : (yX0_isInvertible).cls ≠ "java/lang/invoke/MethodHandle" ∧ (yX0_isInvertible).cls ≠ "java/lang/invoke/VarHandle" ∧ (parseMethodDescriptor (yX0_isInvertible).desc).map (fun d => d.parameters.length) = some 1 := (by decide +kernel)
theorem cv_X11_269 : CV RX11 269 0 yX0_isInvertible cX0_isInvertible 5 (some .boolean) 1 := ⟨⟨TX0, cls_X0⟩, tt_of 950 (by decide +kernel) rfl, mi_X0_isInvertible, me_X0_isInvertible, mn_X0_isInvertible, mc_X0_isInvertible, md_X0_isInvertible, by decide⟩
theorem mc_X0_reckonInverse : Cond.code yX0_reckonInverse cX0_reckonInverse 5 none ∈ TT := tt_of 958 (by decide +kernel) rfl
theorem mn_X0_reckonInverse : Cond.initialized (yX0_reckonInverse).cls ∈ TT := tt_of 156 (by decide +kernel) rfl
theorem mi_X0_reckonInverse : Cond.instanceMethod yX0_reckonInverse ∈ TT := tt_of 956 (by decide +kernel) rfl
theorem me_X0_reckonInverse : Cond.selects (yX0_reckonInverse).cls yX0_reckonInverse yX0_reckonInverse ∈ TT := tt_of 957 (by decide +kernel) rfl
theorem md_X0_reckonInverse : (yX0_reckonInverse).cls ≠ "java/lang/invoke/MethodHandle" ∧ (yX0_reckonInverse).cls ≠ "java/lang/invoke/VarHandle" ∧ (parseMethodDescriptor (yX0_reckonInverse).desc).map (fun d => d.parameters.length) = some 1 := (by decide +kernel)
theorem cv_X11_272 : CV RX11 272 0 yX0_reckonInverse cX0_reckonInverse 5 none 1 := ⟨⟨TX0, cls_X0⟩, tt_of 955 (by decide +kernel) rfl, mi_X0_reckonInverse, me_X0_reckonInverse, mn_X0_reckonInverse, mc_X0_reckonInverse, md_X0_reckonInverse, by decide⟩
theorem cv_X0_117 : CV RX0 117 4 yX4_isBelow cX4_isBelow 3 (some .boolean) 2 := ⟨⟨TX4, cls_X4⟩, tt_of 959 (by decide +kernel) rfl, mi_X4_isBelow, me_X4_isBelow, mn_X4_isBelow, mc_X4_isBelow, md_X4_isBelow, by decide⟩
theorem mc_X0_inverseAt : Cond.code yX0_inverseAt cX0_inverseAt 7 (some .long) ∈ TT := tt_of 963 (by decide +kernel) rfl
theorem mn_X0_inverseAt : Cond.initialized (yX0_inverseAt).cls ∈ TT := tt_of 156 (by decide +kernel) rfl
theorem mi_X0_inverseAt : Cond.instanceMethod yX0_inverseAt ∈ TT := tt_of 962 (by decide +kernel) rfl
theorem me_X0_inverseAt : Cond.selects (yX0_inverseAt).cls yX0_inverseAt yX0_inverseAt ∈ TT := tt_of 26 (by decide +kernel) rfl
theorem md_X0_inverseAt : (yX0_inverseAt).cls ≠ "java/lang/invoke/MethodHandle" ∧ (yX0_inverseAt).cls ≠ "java/lang/invoke/VarHandle" ∧ (parseMethodDescriptor (yX0_inverseAt).desc).map (fun d => d.parameters.length) = some 3 := (by decide +kernel)
theorem cv_X0_120 : CV RX0 120 0 yX0_inverseAt cX0_inverseAt 7 (some .long) 3 := ⟨⟨TX0, cls_X0⟩, tt_of 960 (by decide +kernel) rfl, mi_X0_inverseAt, me_X0_inverseAt, mn_X0_inverseAt, mc_X0_inverseAt, md_X0_inverseAt, by decide⟩
theorem cv_X0_126 : CV RX0 126 4 yX4_upTo cX4_upTo 2 (some .int) 1 := ⟨⟨TX4, cls_X4⟩, tt_of 964 (by decide +kernel) rfl, mi_X4_upTo, me_X4_upTo, mn_X4_upTo, mc_X4_upTo, md_X4_upTo, by decide⟩
theorem mc_X11_raise : Cond.code yX11_raise cX11_raise 4 (some .int) ∈ TT := tt_of 968 (by decide +kernel) rfl
theorem mn_X11_raise : Cond.initialized (yX11_raise).cls ∈ TT := tt_of 151 (by decide +kernel) rfl
theorem mi_X11_raise : Cond.instanceMethod yX11_raise ∈ TT := tt_of 966 (by decide +kernel) rfl
theorem me_X11_raise : Cond.selects (yX11_raise).cls yX11_raise yX11_raise ∈ TT := tt_of 967 (by decide +kernel) rfl
theorem md_X11_raise : (yX11_raise).cls ≠ "java/lang/invoke/MethodHandle" ∧ (yX11_raise).cls ≠ "java/lang/invoke/VarHandle" ∧ (parseMethodDescriptor (yX11_raise).desc).map (fun d => d.parameters.length) = some 3 := (by decide +kernel)
theorem cv_L_55 : CV RL 55 11 yX11_raise cX11_raise 4 (some .int) 3 := ⟨⟨TX11, cls_X11⟩, tt_of 965 (by decide +kernel) rfl, mi_X11_raise, me_X11_raise, mn_X11_raise, mc_X11_raise, md_X11_raise, by decide⟩
theorem mc_X0_reckonPower : Cond.code yX0_reckonPower cX0_reckonPower 4 none ∈ TT := tt_of 972 (by decide +kernel) rfl
theorem mn_X0_reckonPower : Cond.initialized (yX0_reckonPower).cls ∈ TT := tt_of 156 (by decide +kernel) rfl
theorem mi_X0_reckonPower : Cond.instanceMethod yX0_reckonPower ∈ TT := tt_of 970 (by decide +kernel) rfl
theorem me_X0_reckonPower : Cond.selects (yX0_reckonPower).cls yX0_reckonPower yX0_reckonPower ∈ TT := tt_of 971 (by decide +kernel) rfl
theorem md_X0_reckonPower : (yX0_reckonPower).cls ≠ "java/lang/invoke/MethodHandle" ∧ (yX0_reckonPower).cls ≠ "java/lang/invoke/VarHandle" ∧ (parseMethodDescriptor (yX0_reckonPower).desc).map (fun d => d.parameters.length) = some 2 := (by decide +kernel)
theorem cv_X11_275 : CV RX11 275 0 yX0_reckonPower cX0_reckonPower 4 none 2 := ⟨⟨TX0, cls_X0⟩, tt_of 969 (by decide +kernel) rfl, mi_X0_reckonPower, me_X0_reckonPower, mn_X0_reckonPower, mc_X0_reckonPower, md_X0_reckonPower, by decide⟩
theorem cv_X0_100 : CV RX0 100 0 yX0_reckonKind cX0_reckonKind 4 none 1 := ⟨⟨TX0, cls_X0⟩, tt_of 973 (by decide +kernel) rfl, mi_X0_reckonKind, me_X0_reckonKind, mn_X0_reckonKind, mc_X0_reckonKind, md_X0_reckonKind, by decide⟩
theorem cv_X0_108 : CV RX0 108 0 yX0_reckonProduct cX0_reckonProduct 8 none 3 := ⟨⟨TX0, cls_X0⟩, tt_of 974 (by decide +kernel) rfl, mi_X0_reckonProduct, me_X0_reckonProduct, mn_X0_reckonProduct, mc_X0_reckonProduct, md_X0_reckonProduct, by decide⟩
theorem mc_X11_value : Cond.code yX11_value cX11_value 4 (some .long) ∈ TT := tt_of 978 (by decide +kernel) rfl
theorem mn_X11_value : Cond.initialized (yX11_value).cls ∈ TT := tt_of 151 (by decide +kernel) rfl
theorem mi_X11_value : Cond.instanceMethod yX11_value ∈ TT := tt_of 976 (by decide +kernel) rfl
theorem me_X11_value : Cond.selects (yX11_value).cls yX11_value yX11_value ∈ TT := tt_of 977 (by decide +kernel) rfl
theorem md_X11_value : (yX11_value).cls ≠ "java/lang/invoke/MethodHandle" ∧ (yX11_value).cls ≠ "java/lang/invoke/VarHandle" ∧ (parseMethodDescriptor (yX11_value).desc).map (fun d => d.parameters.length) = some 3 := (by decide +kernel)
theorem cv_L_78 : CV RL 78 11 yX11_value cX11_value 4 (some .long) 3 := ⟨⟨TX11, cls_X11⟩, tt_of 975 (by decide +kernel) rfl, mi_X11_value, me_X11_value, mn_X11_value, mc_X11_value, md_X11_value, by decide⟩
theorem mc_X11_same : Cond.code yX11_same cX11_same 4 (some .int) ∈ TT := tt_of 983 (by decide +kernel) rfl
theorem mn_X11_same : Cond.initialized (yX11_same).cls ∈ TT := tt_of 151 (by decide +kernel) rfl
theorem mi_X11_same : Cond.instanceMethod yX11_same ∈ TT := tt_of 981 (by decide +kernel) rfl
theorem me_X11_same : Cond.selects (yX11_same).cls yX11_same yX11_same ∈ TT := tt_of 982 (by decide +kernel) rfl
theorem md_X11_same : (yX11_same).cls ≠ "java/lang/invoke/MethodHandle" ∧ (yX11_same).cls ≠ "java/lang/invoke/VarHandle" ∧ (parseMethodDescriptor (yX11_same).desc).map (fun d => d.parameters.length) = some 2 := (by decide +kernel)
theorem cv_L_83 : CV RL 83 11 yX11_same cX11_same 4 (some .int) 2 := ⟨⟨TX11, cls_X11⟩, tt_of 980 (by decide +kernel) rfl, mi_X11_same, me_X11_same, mn_X11_same, mc_X11_same, md_X11_same, by decide⟩
theorem mc_X11_about : Cond.code yX11_about cX11_about 3 (some .int) ∈ TT := tt_of 987 (by decide +kernel) rfl
theorem mn_X11_about : Cond.initialized (yX11_about).cls ∈ TT := tt_of 151 (by decide +kernel) rfl
theorem mi_X11_about : Cond.instanceMethod yX11_about ∈ TT := tt_of 985 (by decide +kernel) rfl
theorem me_X11_about : Cond.selects (yX11_about).cls yX11_about yX11_about ∈ TT := tt_of 986 (by decide +kernel) rfl
theorem md_X11_about : (yX11_about).cls ≠ "java/lang/invoke/MethodHandle" ∧ (yX11_about).cls ≠ "java/lang/invoke/VarHandle" ∧ (parseMethodDescriptor (yX11_about).desc).map (fun d => d.parameters.length) = some 2 := (by decide +kernel)
theorem cv_L_87 : CV RL 87 11 yX11_about cX11_about 3 (some .int) 2 := ⟨⟨TX11, cls_X11⟩, tt_of 984 (by decide +kernel) rfl, mi_X11_about, me_X11_about, mn_X11_about, mc_X11_about, md_X11_about, by decide⟩
theorem cv_X11_283 : CV RX11 283 4 yX4_upTo cX4_upTo 2 (some .int) 1 := ⟨⟨TX4, cls_X4⟩, tt_of 988 (by decide +kernel) rfl, mi_X4_upTo, me_X4_upTo, mn_X4_upTo, mc_X4_upTo, md_X4_upTo, by decide⟩
theorem cv_X11_287 : CV RX11 287 4 yX4_from cX4_from 2 (some .int) 1 := ⟨⟨TX4, cls_X4⟩, tt_of 989 (by decide +kernel) rfl, mi_X4_from, me_X4_from, mn_X4_from, mc_X4_from, md_X4_from, by decide⟩
theorem mc_X11_bound : Cond.code yX11_bound cX11_bound 4 (some .int) ∈ TT := tt_of 993 (by decide +kernel) rfl
theorem mn_X11_bound : Cond.initialized (yX11_bound).cls ∈ TT := tt_of 151 (by decide +kernel) rfl
theorem mi_X11_bound : Cond.instanceMethod yX11_bound ∈ TT := tt_of 991 (by decide +kernel) rfl
theorem me_X11_bound : Cond.selects (yX11_bound).cls yX11_bound yX11_bound ∈ TT := tt_of 992 (by decide +kernel) rfl
theorem md_X11_bound : (yX11_bound).cls ≠ "java/lang/invoke/MethodHandle" ∧ (yX11_bound).cls ≠ "java/lang/invoke/VarHandle" ∧ (parseMethodDescriptor (yX11_bound).desc).map (fun d => d.parameters.length) = some 3 := (by decide +kernel)
theorem cv_L_91 : CV RL 91 11 yX11_bound cX11_bound 4 (some .int) 3 := ⟨⟨TX11, cls_X11⟩, tt_of 990 (by decide +kernel) rfl, mi_X11_bound, me_X11_bound, mn_X11_bound, mc_X11_bound, md_X11_bound, by decide⟩
theorem mc_X4_least : Cond.code yX4_least cX4_least 3 (some .int) ∈ TT := tt_of 997 (by decide +kernel) rfl
theorem mn_X4_least : Cond.initialized (yX4_least).cls ∈ TT := tt_of 153 (by decide +kernel) rfl
theorem mi_X4_least : Cond.instanceMethod yX4_least ∈ TT := tt_of 995 (by decide +kernel) rfl
theorem me_X4_least : Cond.selects (yX4_least).cls yX4_least yX4_least ∈ TT := tt_of 996 (by decide +kernel) rfl
theorem md_X4_least : (yX4_least).cls ≠ "java/lang/invoke/MethodHandle" ∧ (yX4_least).cls ≠ "java/lang/invoke/VarHandle" ∧ (parseMethodDescriptor (yX4_least).desc).map (fun d => d.parameters.length) = some 1 := (by decide +kernel)
theorem cv_X11_296 : CV RX11 296 4 yX4_least cX4_least 3 (some .int) 1 := ⟨⟨TX4, cls_X4⟩, tt_of 994 (by decide +kernel) rfl, mi_X4_least, me_X4_least, mn_X4_least, mc_X4_least, md_X4_least, by decide⟩
theorem mc_X4_greatest : Cond.code yX4_greatest cX4_greatest 3 (some .int) ∈ TT := tt_of 1001 (by decide +kernel) rfl
theorem mn_X4_greatest : Cond.initialized (yX4_greatest).cls ∈ TT := tt_of 153 (by decide +kernel) rfl
theorem mi_X4_greatest : Cond.instanceMethod yX4_greatest ∈ TT := tt_of 999 (by decide +kernel) rfl
theorem me_X4_greatest : Cond.selects (yX4_greatest).cls yX4_greatest yX4_greatest ∈ TT := tt_of 1000 (by decide +kernel) rfl
theorem md_X4_greatest : (yX4_greatest).cls ≠ "java/lang/invoke/MethodHandle" ∧ (yX4_greatest).cls ≠ "java/lang/invoke/VarHandle" ∧ (parseMethodDescriptor (yX4_greatest).desc).map (fun d => d.parameters.length) = some 1 := (by decide +kernel)
theorem cv_X11_299 : CV RX11 299 4 yX4_greatest cX4_greatest 3 (some .int) 1 := ⟨⟨TX4, cls_X4⟩, tt_of 998 (by decide +kernel) rfl, mi_X4_greatest, me_X4_greatest, mn_X4_greatest, mc_X4_greatest, md_X4_greatest, by decide⟩
theorem mc_X11_count : Cond.code yX11_count cX11_count 2 (some .int) ∈ TT := tt_of 1005 (by decide +kernel) rfl
theorem mn_X11_count : Cond.initialized (yX11_count).cls ∈ TT := tt_of 151 (by decide +kernel) rfl
theorem mi_X11_count : Cond.instanceMethod yX11_count ∈ TT := tt_of 1003 (by decide +kernel) rfl
theorem me_X11_count : Cond.selects (yX11_count).cls yX11_count yX11_count ∈ TT := tt_of 1004 (by decide +kernel) rfl
theorem md_X11_count : (yX11_count).cls ≠ "java/lang/invoke/MethodHandle" ∧ (yX11_count).cls ≠ "java/lang/invoke/VarHandle" ∧ (parseMethodDescriptor (yX11_count).desc).map (fun d => d.parameters.length) = some 1 := (by decide +kernel)
theorem cv_L_149 : CV RL 149 11 yX11_count cX11_count 2 (some .int) 1 := ⟨⟨TX11, cls_X11⟩, tt_of 1002 (by decide +kernel) rfl, mi_X11_count, me_X11_count, mn_X11_count, mc_X11_count, md_X11_count, by decide⟩
theorem mc_X4_greatestHeight : Cond.code yX4_greatestHeight cX4_greatestHeight 3 (some .int) ∈ TT := tt_of 1009 (by decide +kernel) rfl
theorem mn_X4_greatestHeight : Cond.initialized (yX4_greatestHeight).cls ∈ TT := tt_of 153 (by decide +kernel) rfl
theorem mi_X4_greatestHeight : Cond.instanceMethod yX4_greatestHeight ∈ TT := tt_of 1007 (by decide +kernel) rfl
theorem me_X4_greatestHeight : Cond.selects (yX4_greatestHeight).cls yX4_greatestHeight yX4_greatestHeight ∈ TT := tt_of 1008 (by decide +kernel) rfl
theorem md_X4_greatestHeight : (yX4_greatestHeight).cls ≠ "java/lang/invoke/MethodHandle" ∧ (yX4_greatestHeight).cls ≠ "java/lang/invoke/VarHandle" ∧ (parseMethodDescriptor (yX4_greatestHeight).desc).map (fun d => d.parameters.length) = some 0 := (by decide +kernel)
theorem cv_X11_302 : CV RX11 302 4 yX4_greatestHeight cX4_greatestHeight 3 (some .int) 0 := ⟨⟨TX4, cls_X4⟩, tt_of 1006 (by decide +kernel) rfl, mi_X4_greatestHeight, me_X4_greatestHeight, mn_X4_greatestHeight, mc_X4_greatestHeight, md_X4_greatestHeight, by decide⟩
theorem mc_X4_isGraded : Cond.code yX4_isGraded cX4_isGraded 3 (some .boolean) ∈ TT := tt_of 1013 (by decide +kernel) rfl
theorem mn_X4_isGraded : Cond.initialized (yX4_isGraded).cls ∈ TT := tt_of 153 (by decide +kernel) rfl
theorem mi_X4_isGraded : Cond.instanceMethod yX4_isGraded ∈ TT := tt_of 1011 (by decide +kernel) rfl
theorem me_X4_isGraded : Cond.selects (yX4_isGraded).cls yX4_isGraded yX4_isGraded ∈ TT := tt_of 1012 (by decide +kernel) rfl
theorem md_X4_isGraded : (yX4_isGraded).cls ≠ "java/lang/invoke/MethodHandle" ∧ (yX4_isGraded).cls ≠ "java/lang/invoke/VarHandle" ∧ (parseMethodDescriptor (yX4_isGraded).desc).map (fun d => d.parameters.length) = some 0 := (by decide +kernel)
theorem cv_X11_305 : CV RX11 305 4 yX4_isGraded cX4_isGraded 3 (some .boolean) 0 := ⟨⟨TX4, cls_X4⟩, tt_of 1010 (by decide +kernel) rfl, mi_X4_isGraded, me_X4_isGraded, mn_X4_isGraded, mc_X4_isGraded, md_X4_isGraded, by decide⟩
theorem mc_X4_isLattice : Cond.code yX4_isLattice cX4_isLattice 3 (some .boolean) ∈ TT := tt_of 1017 (by decide +kernel) rfl
theorem mn_X4_isLattice : Cond.initialized (yX4_isLattice).cls ∈ TT := tt_of 153 (by decide +kernel) rfl
theorem mi_X4_isLattice : Cond.instanceMethod yX4_isLattice ∈ TT := tt_of 1015 (by decide +kernel) rfl
theorem me_X4_isLattice : Cond.selects (yX4_isLattice).cls yX4_isLattice yX4_isLattice ∈ TT := tt_of 1016 (by decide +kernel) rfl
theorem md_X4_isLattice : (yX4_isLattice).cls ≠ "java/lang/invoke/MethodHandle" ∧ (yX4_isLattice).cls ≠ "java/lang/invoke/VarHandle" ∧ (parseMethodDescriptor (yX4_isLattice).desc).map (fun d => d.parameters.length) = some 0 := (by decide +kernel)
theorem cv_X11_309 : CV RX11 309 4 yX4_isLattice cX4_isLattice 3 (some .boolean) 0 := ⟨⟨TX4, cls_X4⟩, tt_of 1014 (by decide +kernel) rfl, mi_X4_isLattice, me_X4_isLattice, mn_X4_isLattice, mc_X4_isLattice, md_X4_isLattice, by decide⟩
theorem cv_X4_109 : CV RX4 109 4 yX4_greatest cX4_greatest 3 (some .int) 1 := ⟨⟨TX4, cls_X4⟩, tt_of 1018 (by decide +kernel) rfl, mi_X4_greatest, me_X4_greatest, mn_X4_greatest, mc_X4_greatest, md_X4_greatest, by decide⟩
theorem mc_X4_hasJoinsWithin : Cond.code yX4_hasJoinsWithin cX4_hasJoinsWithin 5 (some .boolean) ∈ TT := tt_of 1022 (by decide +kernel) rfl
theorem mn_X4_hasJoinsWithin : Cond.initialized (yX4_hasJoinsWithin).cls ∈ TT := tt_of 153 (by decide +kernel) rfl
theorem mi_X4_hasJoinsWithin : Cond.instanceMethod yX4_hasJoinsWithin ∈ TT := tt_of 1020 (by decide +kernel) rfl
theorem me_X4_hasJoinsWithin : Cond.selects (yX4_hasJoinsWithin).cls yX4_hasJoinsWithin yX4_hasJoinsWithin ∈ TT := tt_of 1021 (by decide +kernel) rfl
theorem md_X4_hasJoinsWithin : (yX4_hasJoinsWithin).cls ≠ "java/lang/invoke/MethodHandle" ∧ (yX4_hasJoinsWithin).cls ≠ "java/lang/invoke/VarHandle" ∧ (parseMethodDescriptor (yX4_hasJoinsWithin).desc).map (fun d => d.parameters.length) = some 1 := (by decide +kernel)
theorem cv_X4_112 : CV RX4 112 4 yX4_hasJoinsWithin cX4_hasJoinsWithin 5 (some .boolean) 1 := ⟨⟨TX4, cls_X4⟩, tt_of 1019 (by decide +kernel) rfl, mi_X4_hasJoinsWithin, me_X4_hasJoinsWithin, mn_X4_hasJoinsWithin, mc_X4_hasJoinsWithin, md_X4_hasJoinsWithin, by decide⟩
theorem cv_X4_106 : CV RX4 106 4 yX4_least cX4_least 3 (some .int) 1 := ⟨⟨TX4, cls_X4⟩, tt_of 1023 (by decide +kernel) rfl, mi_X4_least, me_X4_least, mn_X4_least, mc_X4_least, md_X4_least, by decide⟩
theorem mc_X2_countTypes : Cond.code yX2_countTypes cX2_countTypes 1 (some .int) ∈ TT := tt_of 1027 (by decide +kernel) rfl
theorem mn_X2_countTypes : Cond.initialized (yX2_countTypes).cls ∈ TT := tt_of 160 (by decide +kernel) rfl
theorem mi_X2_countTypes : Cond.instanceMethod yX2_countTypes ∈ TT := tt_of 1025 (by decide +kernel) rfl
theorem me_X2_countTypes : Cond.selects (yX2_countTypes).cls yX2_countTypes yX2_countTypes ∈ TT := tt_of 1026 (by decide +kernel) rfl
theorem md_X2_countTypes : (yX2_countTypes).cls ≠ "java/lang/invoke/MethodHandle" ∧ (yX2_countTypes).cls ≠ "java/lang/invoke/VarHandle" ∧ (parseMethodDescriptor (yX2_countTypes).desc).map (fun d => d.parameters.length) = some 0 := (by decide +kernel)
theorem cv_X11_312 : CV RX11 312 2 yX2_countTypes cX2_countTypes 1 (some .int) 0 := ⟨⟨TX2, cls_X2⟩, tt_of 1024 (by decide +kernel) rfl, mi_X2_countTypes, me_X2_countTypes, mn_X2_countTypes, mc_X2_countTypes, md_X2_countTypes, by decide⟩
theorem mc_X2_learn : Cond.code yX2_learn cX2_learn 3 none ∈ TT := tt_of 1031 (by decide +kernel) rfl
theorem mn_X2_learn : Cond.initialized (yX2_learn).cls ∈ TT := tt_of 160 (by decide +kernel) rfl
theorem mi_X2_learn : Cond.instanceMethod yX2_learn ∈ TT := tt_of 1029 (by decide +kernel) rfl
theorem me_X2_learn : Cond.selects (yX2_learn).cls yX2_learn yX2_learn ∈ TT := tt_of 1030 (by decide +kernel) rfl
theorem md_X2_learn : (yX2_learn).cls ≠ "java/lang/invoke/MethodHandle" ∧ (yX2_learn).cls ≠ "java/lang/invoke/VarHandle" ∧ (parseMethodDescriptor (yX2_learn).desc).map (fun d => d.parameters.length) = some 0 := (by decide +kernel)
theorem cv_X2_47 : CV RX2 47 2 yX2_learn cX2_learn 3 none 0 := ⟨⟨TX2, cls_X2⟩, tt_of 1028 (by decide +kernel) rfl, mi_X2_learn, me_X2_learn, mn_X2_learn, mc_X2_learn, md_X2_learn, by decide⟩
theorem cv_X2_64 : CV RX2 64 4 yX4_atMost cX4_atMost 3 (some .boolean) 2 := ⟨⟨TX4, cls_X4⟩, tt_of 1032 (by decide +kernel) rfl, mi_X4_atMost, me_X4_atMost, mn_X4_atMost, mc_X4_atMost, md_X4_atMost, by decide⟩
theorem mc_X2_findOrAdd : Cond.code yX2_findOrAdd cX2_findOrAdd 6 (some .int) ∈ TT := tt_of 1036 (by decide +kernel) rfl
theorem mn_X2_findOrAdd : Cond.initialized (yX2_findOrAdd).cls ∈ TT := tt_of 160 (by decide +kernel) rfl
theorem mi_X2_findOrAdd : Cond.instanceMethod yX2_findOrAdd ∈ TT := tt_of 1035 (by decide +kernel) rfl
theorem me_X2_findOrAdd : Cond.selects (yX2_findOrAdd).cls yX2_findOrAdd yX2_findOrAdd ∈ TT := tt_of 27 (by decide +kernel) rfl
theorem md_X2_findOrAdd : (yX2_findOrAdd).cls ≠ "java/lang/invoke/MethodHandle" ∧ (yX2_findOrAdd).cls ≠ "java/lang/invoke/VarHandle" ∧ (parseMethodDescriptor (yX2_findOrAdd).desc).map (fun d => d.parameters.length) = some 2 := (by decide +kernel)
theorem cv_X2_68 : CV RX2 68 2 yX2_findOrAdd cX2_findOrAdd 6 (some .int) 2 := ⟨⟨TX2, cls_X2⟩, tt_of 1033 (by decide +kernel) rfl, mi_X2_findOrAdd, me_X2_findOrAdd, mn_X2_findOrAdd, mc_X2_findOrAdd, md_X2_findOrAdd, by decide⟩
theorem cv_X2_54 : CV RX2 54 4 yX4_between cX4_between 3 (some .int) 2 := ⟨⟨TX4, cls_X4⟩, tt_of 1037 (by decide +kernel) rfl, mi_X4_between, me_X4_between, mn_X4_between, mc_X4_between, md_X4_between, by decide⟩
theorem mc_X2_markAll : Cond.code yX2_markAll cX2_markAll 7 (some .int) ∈ TT := tt_of 1041 (by decide +kernel) rfl
theorem mn_X2_markAll : Cond.initialized (yX2_markAll).cls ∈ TT := tt_of 160 (by decide +kernel) rfl
theorem mi_X2_markAll : Cond.instanceMethod yX2_markAll ∈ TT := tt_of 1040 (by decide +kernel) rfl
theorem me_X2_markAll : Cond.selects (yX2_markAll).cls yX2_markAll yX2_markAll ∈ TT := tt_of 28 (by decide +kernel) rfl
theorem md_X2_markAll : (yX2_markAll).cls ≠ "java/lang/invoke/MethodHandle" ∧ (yX2_markAll).cls ≠ "java/lang/invoke/VarHandle" ∧ (parseMethodDescriptor (yX2_markAll).desc).map (fun d => d.parameters.length) = some 2 := (by decide +kernel)
theorem cv_X2_71 : CV RX2 71 2 yX2_markAll cX2_markAll 7 (some .int) 2 := ⟨⟨TX2, cls_X2⟩, tt_of 1038 (by decide +kernel) rfl, mi_X2_markAll, me_X2_markAll, mn_X2_markAll, mc_X2_markAll, md_X2_markAll, by decide⟩
theorem ct_X2_81 : CT RX2 81 yJ6_bitCount_0f7a4 cJ6_bitCount_0f7a4 1 (some .int) 1 := ⟨tt_of 1042 (by decide +kernel) rfl, ms_J6_bitCount_0f7a4, mn_J6_bitCount_0f7a4, mc_J6_bitCount_0f7a4, md_J6_bitCount_0f7a4, by decide⟩
theorem mc_X2_sumOfSquares : Cond.code yX2_sumOfSquares cX2_sumOfSquares 4 (some .int) ∈ TT := tt_of 1046 (by decide +kernel) rfl
theorem mn_X2_sumOfSquares : Cond.initialized (yX2_sumOfSquares).cls ∈ TT := tt_of 160 (by decide +kernel) rfl
theorem mi_X2_sumOfSquares : Cond.instanceMethod yX2_sumOfSquares ∈ TT := tt_of 1045 (by decide +kernel) rfl
theorem me_X2_sumOfSquares : Cond.selects (yX2_sumOfSquares).cls yX2_sumOfSquares yX2_sumOfSquares ∈ TT := tt_of 29 (by decide +kernel) rfl
theorem md_X2_sumOfSquares : (yX2_sumOfSquares).cls ≠ "java/lang/invoke/MethodHandle" ∧ (yX2_sumOfSquares).cls ≠ "java/lang/invoke/VarHandle" ∧ (parseMethodDescriptor (yX2_sumOfSquares).desc).map (fun d => d.parameters.length) = some 1 := (by decide +kernel)
theorem cv_X2_90 : CV RX2 90 2 yX2_sumOfSquares cX2_sumOfSquares 4 (some .int) 1 := ⟨⟨TX2, cls_X2⟩, tt_of 1043 (by decide +kernel) rfl, mi_X2_sumOfSquares, me_X2_sumOfSquares, mn_X2_sumOfSquares, mc_X2_sumOfSquares, md_X2_sumOfSquares, by decide⟩
theorem mc_X2_isAlike : Cond.code yX2_isAlike cX2_isAlike 4 (some .boolean) ∈ TT := tt_of 1050 (by decide +kernel) rfl
theorem mn_X2_isAlike : Cond.initialized (yX2_isAlike).cls ∈ TT := tt_of 160 (by decide +kernel) rfl
theorem mi_X2_isAlike : Cond.instanceMethod yX2_isAlike ∈ TT := tt_of 1049 (by decide +kernel) rfl
theorem me_X2_isAlike : Cond.selects (yX2_isAlike).cls yX2_isAlike yX2_isAlike ∈ TT := tt_of 30 (by decide +kernel) rfl
theorem md_X2_isAlike : (yX2_isAlike).cls ≠ "java/lang/invoke/MethodHandle" ∧ (yX2_isAlike).cls ≠ "java/lang/invoke/VarHandle" ∧ (parseMethodDescriptor (yX2_isAlike).desc).map (fun d => d.parameters.length) = some 2 := (by decide +kernel)
theorem cv_X2_75 : CV RX2 75 2 yX2_isAlike cX2_isAlike 4 (some .boolean) 2 := ⟨⟨TX2, cls_X2⟩, tt_of 1047 (by decide +kernel) rfl, mi_X2_isAlike, me_X2_isAlike, mn_X2_isAlike, mc_X2_isAlike, md_X2_isAlike, by decide⟩
theorem mc_X2_pairOff : Cond.code yX2_pairOff cX2_pairOff 9 (some .boolean) ∈ TT := tt_of 1054 (by decide +kernel) rfl
theorem mn_X2_pairOff : Cond.initialized (yX2_pairOff).cls ∈ TT := tt_of 160 (by decide +kernel) rfl
theorem mi_X2_pairOff : Cond.instanceMethod yX2_pairOff ∈ TT := tt_of 1053 (by decide +kernel) rfl
theorem me_X2_pairOff : Cond.selects (yX2_pairOff).cls yX2_pairOff yX2_pairOff ∈ TT := tt_of 31 (by decide +kernel) rfl
theorem md_X2_pairOff : (yX2_pairOff).cls ≠ "java/lang/invoke/MethodHandle" ∧ (yX2_pairOff).cls ≠ "java/lang/invoke/VarHandle" ∧ (parseMethodDescriptor (yX2_pairOff).desc).map (fun d => d.parameters.length) = some 4 := (by decide +kernel)
theorem cv_X2_99 : CV RX2 99 2 yX2_pairOff cX2_pairOff 9 (some .boolean) 4 := ⟨⟨TX2, cls_X2⟩, tt_of 1051 (by decide +kernel) rfl, mi_X2_pairOff, me_X2_pairOff, mn_X2_pairOff, mc_X2_pairOff, md_X2_pairOff, by decide⟩
theorem mc_X2_partnersOf : Cond.code yX2_partnersOf cX2_partnersOf 4 (some .int) ∈ TT := tt_of 1058 (by decide +kernel) rfl
theorem mn_X2_partnersOf : Cond.initialized (yX2_partnersOf).cls ∈ TT := tt_of 160 (by decide +kernel) rfl
theorem mi_X2_partnersOf : Cond.instanceMethod yX2_partnersOf ∈ TT := tt_of 1057 (by decide +kernel) rfl
theorem me_X2_partnersOf : Cond.selects (yX2_partnersOf).cls yX2_partnersOf yX2_partnersOf ∈ TT := tt_of 32 (by decide +kernel) rfl
theorem md_X2_partnersOf : (yX2_partnersOf).cls ≠ "java/lang/invoke/MethodHandle" ∧ (yX2_partnersOf).cls ≠ "java/lang/invoke/VarHandle" ∧ (parseMethodDescriptor (yX2_partnersOf).desc).map (fun d => d.parameters.length) = some 1 := (by decide +kernel)
theorem cv_X2_103 : CV RX2 103 2 yX2_partnersOf cX2_partnersOf 4 (some .int) 1 := ⟨⟨TX2, cls_X2⟩, tt_of 1055 (by decide +kernel) rfl, mi_X2_partnersOf, me_X2_partnersOf, mn_X2_partnersOf, mc_X2_partnersOf, md_X2_partnersOf, by decide⟩
theorem mc_X4_without : Cond.code yX4_without cX4_without 4 (some .int) ∈ TT := tt_of 1062 (by decide +kernel) rfl
theorem mn_X4_without : Cond.initialized (yX4_without).cls ∈ TT := tt_of 153 (by decide +kernel) rfl
theorem mi_X4_without : Cond.instanceMethod yX4_without ∈ TT := tt_of 1060 (by decide +kernel) rfl
theorem me_X4_without : Cond.selects (yX4_without).cls yX4_without yX4_without ∈ TT := tt_of 1061 (by decide +kernel) rfl
theorem md_X4_without : (yX4_without).cls ≠ "java/lang/invoke/MethodHandle" ∧ (yX4_without).cls ≠ "java/lang/invoke/VarHandle" ∧ (parseMethodDescriptor (yX4_without).desc).map (fun d => d.parameters.length) = some 1 := (by decide +kernel)
theorem cv_X11_318 : CV RX11 318 4 yX4_without cX4_without 4 (some .int) 1 := ⟨⟨TX4, cls_X4⟩, tt_of 1059 (by decide +kernel) rfl, mi_X4_without, me_X4_without, mn_X4_without, mc_X4_without, md_X4_without, by decide⟩
theorem mc_X11_reducedFunctions : Cond.code yX11_reducedFunctions cX11_reducedFunctions 3 (some .int) ∈ TT := tt_of 1066 (by decide +kernel) rfl
theorem mn_X11_reducedFunctions : Cond.initialized (yX11_reducedFunctions).cls ∈ TT := tt_of 151 (by decide +kernel) rfl
theorem mi_X11_reducedFunctions : Cond.instanceMethod yX11_reducedFunctions ∈ TT := tt_of 1065 (by decide +kernel) rfl
theorem me_X11_reducedFunctions : Cond.selects (yX11_reducedFunctions).cls yX11_reducedFunctions yX11_reducedFunctions ∈ TT := tt_of 33 (by decide +kernel) rfl
theorem md_X11_reducedFunctions : (yX11_reducedFunctions).cls ≠ "java/lang/invoke/MethodHandle" ∧ (yX11_reducedFunctions).cls ≠ "java/lang/invoke/VarHandle" ∧ (parseMethodDescriptor (yX11_reducedFunctions).desc).map (fun d => d.parameters.length) = some 0 := (by decide +kernel)
theorem cv_X11_321 : CV RX11 321 11 yX11_reducedFunctions cX11_reducedFunctions 3 (some .int) 0 := ⟨⟨TX11, cls_X11⟩, tt_of 1063 (by decide +kernel) rfl, mi_X11_reducedFunctions, me_X11_reducedFunctions, mn_X11_reducedFunctions, mc_X11_reducedFunctions, md_X11_reducedFunctions, by decide⟩
theorem cv_X11_364 : CV RX11 364 2 yX2_learn cX2_learn 3 none 0 := ⟨⟨TX2, cls_X2⟩, tt_of 1067 (by decide +kernel) rfl, mi_X2_learn, me_X2_learn, mn_X2_learn, mc_X2_learn, md_X2_learn, by decide⟩
theorem mc_X11_isReduced : Cond.code yX11_isReduced cX11_isReduced 7 (some .boolean) ∈ TT := tt_of 1071 (by decide +kernel) rfl
theorem mn_X11_isReduced : Cond.initialized (yX11_isReduced).cls ∈ TT := tt_of 151 (by decide +kernel) rfl
theorem mi_X11_isReduced : Cond.instanceMethod yX11_isReduced ∈ TT := tt_of 1070 (by decide +kernel) rfl
theorem me_X11_isReduced : Cond.selects (yX11_isReduced).cls yX11_isReduced yX11_isReduced ∈ TT := tt_of 34 (by decide +kernel) rfl
theorem md_X11_isReduced : (yX11_isReduced).cls ≠ "java/lang/invoke/MethodHandle" ∧ (yX11_isReduced).cls ≠ "java/lang/invoke/VarHandle" ∧ (parseMethodDescriptor (yX11_isReduced).desc).map (fun d => d.parameters.length) = some 1 := (by decide +kernel)
theorem cv_X11_376 : CV RX11 376 11 yX11_isReduced cX11_isReduced 7 (some .boolean) 1 := ⟨⟨TX11, cls_X11⟩, tt_of 1068 (by decide +kernel) rfl, mi_X11_isReduced, me_X11_isReduced, mn_X11_isReduced, mc_X11_isReduced, md_X11_isReduced, by decide⟩
theorem mc_X2_typeOf : Cond.code yX2_typeOf cX2_typeOf 3 (some .int) ∈ TT := tt_of 1075 (by decide +kernel) rfl
theorem mn_X2_typeOf : Cond.initialized (yX2_typeOf).cls ∈ TT := tt_of 160 (by decide +kernel) rfl
theorem mi_X2_typeOf : Cond.instanceMethod yX2_typeOf ∈ TT := tt_of 1073 (by decide +kernel) rfl
theorem me_X2_typeOf : Cond.selects (yX2_typeOf).cls yX2_typeOf yX2_typeOf ∈ TT := tt_of 1074 (by decide +kernel) rfl
theorem md_X2_typeOf : (yX2_typeOf).cls ≠ "java/lang/invoke/MethodHandle" ∧ (yX2_typeOf).cls ≠ "java/lang/invoke/VarHandle" ∧ (parseMethodDescriptor (yX2_typeOf).desc).map (fun d => d.parameters.length) = some 2 := (by decide +kernel)
theorem cv_X11_367 : CV RX11 367 2 yX2_typeOf cX2_typeOf 3 (some .int) 2 := ⟨⟨TX2, cls_X2⟩, tt_of 1072 (by decide +kernel) rfl, mi_X2_typeOf, me_X2_typeOf, mn_X2_typeOf, mc_X2_typeOf, md_X2_typeOf, by decide⟩
theorem mc_X7_widest : Cond.code yX7_widest cX7_widest 1 (some .int) ∈ TT := tt_of 1079 (by decide +kernel) rfl
theorem mn_X7_widest : Cond.initialized (yX7_widest).cls ∈ TT := tt_of 161 (by decide +kernel) rfl
theorem mi_X7_widest : Cond.instanceMethod yX7_widest ∈ TT := tt_of 1077 (by decide +kernel) rfl
theorem me_X7_widest : Cond.selects (yX7_widest).cls yX7_widest yX7_widest ∈ TT := tt_of 1078 (by decide +kernel) rfl
theorem md_X7_widest : (yX7_widest).cls ≠ "java/lang/invoke/MethodHandle" ∧ (yX7_widest).cls ≠ "java/lang/invoke/VarHandle" ∧ (parseMethodDescriptor (yX7_widest).desc).map (fun d => d.parameters.length) = some 0 := (by decide +kernel)
theorem cv_X11_324 : CV RX11 324 7 yX7_widest cX7_widest 1 (some .int) 0 := ⟨⟨TX7, cls_X7⟩, tt_of 1076 (by decide +kernel) rfl, mi_X7_widest, me_X7_widest, mn_X7_widest, mc_X7_widest, md_X7_widest, by decide⟩
theorem cv_X7_52 : CV RX7 52 4 yX4_all cX4_all 1 (some .int) 0 := ⟨⟨TX4, cls_X4⟩, tt_of 1080 (by decide +kernel) rfl, mi_X4_all, me_X4_all, mn_X4_all, mc_X4_all, md_X4_all, by decide⟩
theorem mc_X7_widestOf : Cond.code yX7_widestOf cX7_widestOf 6 (some .int) ∈ TT := tt_of 1084 (by decide +kernel) rfl
theorem mn_X7_widestOf : Cond.initialized (yX7_widestOf).cls ∈ TT := tt_of 161 (by decide +kernel) rfl
theorem mi_X7_widestOf : Cond.instanceMethod yX7_widestOf ∈ TT := tt_of 1083 (by decide +kernel) rfl
theorem me_X7_widestOf : Cond.selects (yX7_widestOf).cls yX7_widestOf yX7_widestOf ∈ TT := tt_of 35 (by decide +kernel) rfl
theorem md_X7_widestOf : (yX7_widestOf).cls ≠ "java/lang/invoke/MethodHandle" ∧ (yX7_widestOf).cls ≠ "java/lang/invoke/VarHandle" ∧ (parseMethodDescriptor (yX7_widestOf).desc).map (fun d => d.parameters.length) = some 2 := (by decide +kernel)
theorem cv_X7_88 : CV RX7 88 7 yX7_widestOf cX7_widestOf 6 (some .int) 2 := ⟨⟨TX7, cls_X7⟩, tt_of 1081 (by decide +kernel) rfl, mi_X7_widestOf, me_X7_widestOf, mn_X7_widestOf, mc_X7_widestOf, md_X7_widestOf, by decide⟩
theorem mc_X7_busiestOf : Cond.code yX7_busiestOf cX7_busiestOf 6 (some .int) ∈ TT := tt_of 1088 (by decide +kernel) rfl
theorem mn_X7_busiestOf : Cond.initialized (yX7_busiestOf).cls ∈ TT := tt_of 161 (by decide +kernel) rfl
theorem mi_X7_busiestOf : Cond.instanceMethod yX7_busiestOf ∈ TT := tt_of 1087 (by decide +kernel) rfl
theorem me_X7_busiestOf : Cond.selects (yX7_busiestOf).cls yX7_busiestOf yX7_busiestOf ∈ TT := tt_of 36 (by decide +kernel) rfl
theorem md_X7_busiestOf : (yX7_busiestOf).cls ≠ "java/lang/invoke/MethodHandle" ∧ (yX7_busiestOf).cls ≠ "java/lang/invoke/VarHandle" ∧ (parseMethodDescriptor (yX7_busiestOf).desc).map (fun d => d.parameters.length) = some 1 := (by decide +kernel)
theorem cv_X7_60 : CV RX7 60 7 yX7_busiestOf cX7_busiestOf 6 (some .int) 1 := ⟨⟨TX7, cls_X7⟩, tt_of 1085 (by decide +kernel) rfl, mi_X7_busiestOf, me_X7_busiestOf, mn_X7_busiestOf, mc_X7_busiestOf, md_X7_busiestOf, by decide⟩
theorem mc_X7_comparable : Cond.code yX7_comparable cX7_comparable 2 (some .int) ∈ TT := tt_of 1092 (by decide +kernel) rfl
theorem mn_X7_comparable : Cond.initialized (yX7_comparable).cls ∈ TT := tt_of 161 (by decide +kernel) rfl
theorem mi_X7_comparable : Cond.instanceMethod yX7_comparable ∈ TT := tt_of 1091 (by decide +kernel) rfl
theorem me_X7_comparable : Cond.selects (yX7_comparable).cls yX7_comparable yX7_comparable ∈ TT := tt_of 37 (by decide +kernel) rfl
theorem md_X7_comparable : (yX7_comparable).cls ≠ "java/lang/invoke/MethodHandle" ∧ (yX7_comparable).cls ≠ "java/lang/invoke/VarHandle" ∧ (parseMethodDescriptor (yX7_comparable).desc).map (fun d => d.parameters.length) = some 1 := (by decide +kernel)
theorem cv_X7_85 : CV RX7 85 7 yX7_comparable cX7_comparable 2 (some .int) 1 := ⟨⟨TX7, cls_X7⟩, tt_of 1089 (by decide +kernel) rfl, mi_X7_comparable, me_X7_comparable, mn_X7_comparable, mc_X7_comparable, md_X7_comparable, by decide⟩
theorem ct_X7_64 : CT RX7 64 yJ6_bitCount_0f7a4 cJ6_bitCount_0f7a4 1 (some .int) 1 := ⟨tt_of 1093 (by decide +kernel) rfl, ms_J6_bitCount_0f7a4, mn_J6_bitCount_0f7a4, mc_J6_bitCount_0f7a4, md_J6_bitCount_0f7a4, by decide⟩
theorem ct_X7_92 : CT RX7 92 yJ9_max_7cf53 cJ9_max_7cf53 2 (some .int) 2 := ⟨tt_of 1094 (by decide +kernel) rfl, ms_J9_max_7cf53, mn_J9_max_7cf53, mc_J9_max_7cf53, md_J9_max_7cf53, by decide⟩
theorem mc_X11_chains : Cond.code yX11_chains cX11_chains 4 (some .long) ∈ TT := tt_of 1098 (by decide +kernel) rfl
theorem mn_X11_chains : Cond.initialized (yX11_chains).cls ∈ TT := tt_of 151 (by decide +kernel) rfl
theorem mi_X11_chains : Cond.instanceMethod yX11_chains ∈ TT := tt_of 1096 (by decide +kernel) rfl
theorem me_X11_chains : Cond.selects (yX11_chains).cls yX11_chains yX11_chains ∈ TT := tt_of 1097 (by decide +kernel) rfl
theorem md_X11_chains : (yX11_chains).cls ≠ "java/lang/invoke/MethodHandle" ∧ (yX11_chains).cls ≠ "java/lang/invoke/VarHandle" ∧ (parseMethodDescriptor (yX11_chains).desc).map (fun d => d.parameters.length) = some 3 := (by decide +kernel)
theorem cv_L_95 : CV RL 95 11 yX11_chains cX11_chains 4 (some .long) 3 := ⟨⟨TX11, cls_X11⟩, tt_of 1095 (by decide +kernel) rfl, mi_X11_chains, me_X11_chains, mn_X11_chains, mc_X11_chains, md_X11_chains, by decide⟩
theorem mc_X5_chainsOfAll : Cond.code yX5_chainsOfAll cX5_chainsOfAll 10 (some .long) ∈ TT := tt_of 1103 (by decide +kernel) rfl
theorem mn_X5_chainsOfAll : Cond.initialized (yX5_chainsOfAll).cls ∈ TT := tt_of 159 (by decide +kernel) rfl
theorem mi_X5_chainsOfAll : Cond.instanceMethod yX5_chainsOfAll ∈ TT := tt_of 1101 (by decide +kernel) rfl
theorem me_X5_chainsOfAll : Cond.selects (yX5_chainsOfAll).cls yX5_chainsOfAll yX5_chainsOfAll ∈ TT := tt_of 1102 (by decide +kernel) rfl
theorem md_X5_chainsOfAll : (yX5_chainsOfAll).cls ≠ "java/lang/invoke/MethodHandle" ∧ (yX5_chainsOfAll).cls ≠ "java/lang/invoke/VarHandle" ∧ (parseMethodDescriptor (yX5_chainsOfAll).desc).map (fun d => d.parameters.length) = some 4 := (by decide +kernel)
theorem cv_X11_329 : CV RX11 329 5 yX5_chainsOfAll cX5_chainsOfAll 10 (some .long) 4 := ⟨⟨TX5, cls_X5⟩, tt_of 1100 (by decide +kernel) rfl, mi_X5_chainsOfAll, me_X5_chainsOfAll, mn_X5_chainsOfAll, mc_X5_chainsOfAll, md_X5_chainsOfAll, by decide⟩
theorem mc_X5_start : Cond.code yX5_start cX5_start 2 none ∈ TT := tt_of 1107 (by decide +kernel) rfl
theorem mn_X5_start : Cond.initialized (yX5_start).cls ∈ TT := tt_of 159 (by decide +kernel) rfl
theorem mi_X5_start : Cond.instanceMethod yX5_start ∈ TT := tt_of 1106 (by decide +kernel) rfl
theorem me_X5_start : Cond.selects (yX5_start).cls yX5_start yX5_start ∈ TT := tt_of 38 (by decide +kernel) rfl
theorem md_X5_start : (yX5_start).cls ≠ "java/lang/invoke/MethodHandle" ∧ (yX5_start).cls ≠ "java/lang/invoke/VarHandle" ∧ (parseMethodDescriptor (yX5_start).desc).map (fun d => d.parameters.length) = some 1 := (by decide +kernel)
theorem cv_X5_40 : CV RX5 40 5 yX5_start cX5_start 2 none 1 := ⟨⟨TX5, cls_X5⟩, tt_of 1104 (by decide +kernel) rfl, mi_X5_start, me_X5_start, mn_X5_start, mc_X5_start, md_X5_start, by decide⟩
theorem ct_X5_22 : CT RX5 22 yJ7_fill_d0a16 cJ7_fill_d0a16 5 none 2 := ⟨tt_of 1108 (by decide +kernel) rfl, ms_J7_fill_d0a16, mn_J7_fill_d0a16, mc_J7_fill_d0a16, md_J7_fill_d0a16, by decide⟩
theorem mc_X5_step : Cond.code yX5_step cX5_step 7 none ∈ TT := tt_of 1112 (by decide +kernel) rfl
theorem mn_X5_step : Cond.initialized (yX5_step).cls ∈ TT := tt_of 159 (by decide +kernel) rfl
theorem mi_X5_step : Cond.instanceMethod yX5_step ∈ TT := tt_of 1111 (by decide +kernel) rfl
theorem me_X5_step : Cond.selects (yX5_step).cls yX5_step yX5_step ∈ TT := tt_of 39 (by decide +kernel) rfl
theorem md_X5_step : (yX5_step).cls ≠ "java/lang/invoke/MethodHandle" ∧ (yX5_step).cls ≠ "java/lang/invoke/VarHandle" ∧ (parseMethodDescriptor (yX5_step).desc).map (fun d => d.parameters.length) = some 2 := (by decide +kernel)
theorem cv_X5_48 : CV RX5 48 5 yX5_step cX5_step 7 none 2 := ⟨⟨TX5, cls_X5⟩, tt_of 1109 (by decide +kernel) rfl, mi_X5_step, me_X5_step, mn_X5_step, mc_X5_step, md_X5_step, by decide⟩
theorem mc_X5_chainsOf : Cond.code yX5_chainsOf cX5_chainsOf 5 (some .long) ∈ TT := tt_of 1117 (by decide +kernel) rfl
theorem mn_X5_chainsOf : Cond.initialized (yX5_chainsOf).cls ∈ TT := tt_of 159 (by decide +kernel) rfl
theorem mi_X5_chainsOf : Cond.instanceMethod yX5_chainsOf ∈ TT := tt_of 1115 (by decide +kernel) rfl
theorem me_X5_chainsOf : Cond.selects (yX5_chainsOf).cls yX5_chainsOf yX5_chainsOf ∈ TT := tt_of 1116 (by decide +kernel) rfl
theorem md_X5_chainsOf : (yX5_chainsOf).cls ≠ "java/lang/invoke/MethodHandle" ∧ (yX5_chainsOf).cls ≠ "java/lang/invoke/VarHandle" ∧ (parseMethodDescriptor (yX5_chainsOf).desc).map (fun d => d.parameters.length) = some 3 := (by decide +kernel)
theorem cv_X11_333 : CV RX11 333 5 yX5_chainsOf cX5_chainsOf 5 (some .long) 3 := ⟨⟨TX5, cls_X5⟩, tt_of 1114 (by decide +kernel) rfl, mi_X5_chainsOf, me_X5_chainsOf, mn_X5_chainsOf, mc_X5_chainsOf, md_X5_chainsOf, by decide⟩
theorem mc_X11_moebius : Cond.code yX11_moebius cX11_moebius 4 (some .long) ∈ TT := tt_of 1121 (by decide +kernel) rfl
theorem mn_X11_moebius : Cond.initialized (yX11_moebius).cls ∈ TT := tt_of 151 (by decide +kernel) rfl
theorem mi_X11_moebius : Cond.instanceMethod yX11_moebius ∈ TT := tt_of 1119 (by decide +kernel) rfl
theorem me_X11_moebius : Cond.selects (yX11_moebius).cls yX11_moebius yX11_moebius ∈ TT := tt_of 1120 (by decide +kernel) rfl
theorem md_X11_moebius : (yX11_moebius).cls ≠ "java/lang/invoke/MethodHandle" ∧ (yX11_moebius).cls ≠ "java/lang/invoke/VarHandle" ∧ (parseMethodDescriptor (yX11_moebius).desc).map (fun d => d.parameters.length) = some 3 := (by decide +kernel)
theorem cv_L_99 : CV RL 99 11 yX11_moebius cX11_moebius 4 (some .long) 3 := ⟨⟨TX11, cls_X11⟩, tt_of 1118 (by decide +kernel) rfl, mi_X11_moebius, me_X11_moebius, mn_X11_moebius, mc_X11_moebius, md_X11_moebius, by decide⟩
theorem cv_X11_336 : CV RX11 336 4 yX4_moebiusFrom cX4_moebiusFrom 5 none 2 := ⟨⟨TX4, cls_X4⟩, tt_of 1122 (by decide +kernel) rfl, mi_X4_moebiusFrom, me_X4_moebiusFrom, mn_X4_moebiusFrom, mc_X4_moebiusFrom, md_X4_moebiusFrom, by decide⟩
theorem mc_X4_moebiusTo : Cond.code yX4_moebiusTo cX4_moebiusTo 5 none ∈ TT := tt_of 1126 (by decide +kernel) rfl
theorem mn_X4_moebiusTo : Cond.initialized (yX4_moebiusTo).cls ∈ TT := tt_of 153 (by decide +kernel) rfl
theorem mi_X4_moebiusTo : Cond.instanceMethod yX4_moebiusTo ∈ TT := tt_of 1124 (by decide +kernel) rfl
theorem me_X4_moebiusTo : Cond.selects (yX4_moebiusTo).cls yX4_moebiusTo yX4_moebiusTo ∈ TT := tt_of 1125 (by decide +kernel) rfl
theorem md_X4_moebiusTo : (yX4_moebiusTo).cls ≠ "java/lang/invoke/MethodHandle" ∧ (yX4_moebiusTo).cls ≠ "java/lang/invoke/VarHandle" ∧ (parseMethodDescriptor (yX4_moebiusTo).desc).map (fun d => d.parameters.length) = some 2 := (by decide +kernel)
theorem cv_X11_340 : CV RX11 340 4 yX4_moebiusTo cX4_moebiusTo 5 none 2 := ⟨⟨TX4, cls_X4⟩, tt_of 1123 (by decide +kernel) rfl, mi_X4_moebiusTo, me_X4_moebiusTo, mn_X4_moebiusTo, mc_X4_moebiusTo, md_X4_moebiusTo, by decide⟩
theorem cv_X11_343 : CV RX11 343 4 yX4_hasJoinsWithin cX4_hasJoinsWithin 5 (some .boolean) 1 := ⟨⟨TX4, cls_X4⟩, tt_of 1127 (by decide +kernel) rfl, mi_X4_hasJoinsWithin, me_X4_hasJoinsWithin, mn_X4_hasJoinsWithin, mc_X4_hasJoinsWithin, md_X4_hasJoinsWithin, by decide⟩
theorem mc_X5_crossCut : Cond.code yX5_crossCut cX5_crossCut 6 (some .long) ∈ TT := tt_of 1131 (by decide +kernel) rfl
theorem mn_X5_crossCut : Cond.initialized (yX5_crossCut).cls ∈ TT := tt_of 159 (by decide +kernel) rfl
theorem mi_X5_crossCut : Cond.instanceMethod yX5_crossCut ∈ TT := tt_of 1129 (by decide +kernel) rfl
theorem me_X5_crossCut : Cond.selects (yX5_crossCut).cls yX5_crossCut yX5_crossCut ∈ TT := tt_of 1130 (by decide +kernel) rfl
theorem md_X5_crossCut : (yX5_crossCut).cls ≠ "java/lang/invoke/MethodHandle" ∧ (yX5_crossCut).cls ≠ "java/lang/invoke/VarHandle" ∧ (parseMethodDescriptor (yX5_crossCut).desc).map (fun d => d.parameters.length) = some 2 := (by decide +kernel)
theorem cv_X11_346 : CV RX11 346 5 yX5_crossCut cX5_crossCut 6 (some .long) 2 := ⟨⟨TX5, cls_X5⟩, tt_of 1128 (by decide +kernel) rfl, mi_X5_crossCut, me_X5_crossCut, mn_X5_crossCut, mc_X5_crossCut, md_X5_crossCut, by decide⟩
theorem cv_X5_52 : CV RX5 52 4 yX4_between cX4_between 3 (some .int) 2 := ⟨⟨TX4, cls_X4⟩, tt_of 1132 (by decide +kernel) rfl, mi_X4_between, me_X4_between, mn_X4_between, mc_X4_between, md_X4_between, by decide⟩
theorem mc_X5_takeAtom : Cond.code yX5_takeAtom cX5_takeAtom 5 none ∈ TT := tt_of 1136 (by decide +kernel) rfl
theorem mn_X5_takeAtom : Cond.initialized (yX5_takeAtom).cls ∈ TT := tt_of 159 (by decide +kernel) rfl
theorem mi_X5_takeAtom : Cond.instanceMethod yX5_takeAtom ∈ TT := tt_of 1135 (by decide +kernel) rfl
theorem me_X5_takeAtom : Cond.selects (yX5_takeAtom).cls yX5_takeAtom yX5_takeAtom ∈ TT := tt_of 40 (by decide +kernel) rfl
theorem md_X5_takeAtom : (yX5_takeAtom).cls ≠ "java/lang/invoke/MethodHandle" ∧ (yX5_takeAtom).cls ≠ "java/lang/invoke/VarHandle" ∧ (parseMethodDescriptor (yX5_takeAtom).desc).map (fun d => d.parameters.length) = some 2 := (by decide +kernel)
theorem cv_X5_59 : CV RX5 59 5 yX5_takeAtom cX5_takeAtom 5 none 2 := ⟨⟨TX5, cls_X5⟩, tt_of 1133 (by decide +kernel) rfl, mi_X5_takeAtom, me_X5_takeAtom, mn_X5_takeAtom, mc_X5_takeAtom, md_X5_takeAtom, by decide⟩
theorem cv_X5_63 : CV RX5 63 4 yX4_from cX4_from 2 (some .int) 1 := ⟨⟨TX4, cls_X4⟩, tt_of 1137 (by decide +kernel) rfl, mi_X4_from, me_X4_from, mn_X4_from, mc_X4_from, md_X4_from, by decide⟩
theorem cv_X5_67 : CV RX5 67 4 yX4_least cX4_least 3 (some .int) 1 := ⟨⟨TX4, cls_X4⟩, tt_of 1138 (by decide +kernel) rfl, mi_X4_least, me_X4_least, mn_X4_least, mc_X4_least, md_X4_least, by decide⟩
theorem mc_X11_multichains : Cond.code yX11_multichains cX11_multichains 4 (some .long) ∈ TT := tt_of 1142 (by decide +kernel) rfl
theorem mn_X11_multichains : Cond.initialized (yX11_multichains).cls ∈ TT := tt_of 151 (by decide +kernel) rfl
theorem mi_X11_multichains : Cond.instanceMethod yX11_multichains ∈ TT := tt_of 1140 (by decide +kernel) rfl
theorem me_X11_multichains : Cond.selects (yX11_multichains).cls yX11_multichains yX11_multichains ∈ TT := tt_of 1141 (by decide +kernel) rfl
theorem md_X11_multichains : (yX11_multichains).cls ≠ "java/lang/invoke/MethodHandle" ∧ (yX11_multichains).cls ≠ "java/lang/invoke/VarHandle" ∧ (parseMethodDescriptor (yX11_multichains).desc).map (fun d => d.parameters.length) = some 3 := (by decide +kernel)
theorem cv_L_103 : CV RL 103 11 yX11_multichains cX11_multichains 4 (some .long) 3 := ⟨⟨TX11, cls_X11⟩, tt_of 1139 (by decide +kernel) rfl, mi_X11_multichains, me_X11_multichains, mn_X11_multichains, mc_X11_multichains, md_X11_multichains, by decide⟩
theorem mc_X5_multichainsOf : Cond.code yX5_multichainsOf cX5_multichainsOf 5 (some .long) ∈ TT := tt_of 1146 (by decide +kernel) rfl
theorem mn_X5_multichainsOf : Cond.initialized (yX5_multichainsOf).cls ∈ TT := tt_of 159 (by decide +kernel) rfl
theorem mi_X5_multichainsOf : Cond.instanceMethod yX5_multichainsOf ∈ TT := tt_of 1144 (by decide +kernel) rfl
theorem me_X5_multichainsOf : Cond.selects (yX5_multichainsOf).cls yX5_multichainsOf yX5_multichainsOf ∈ TT := tt_of 1145 (by decide +kernel) rfl
theorem md_X5_multichainsOf : (yX5_multichainsOf).cls ≠ "java/lang/invoke/MethodHandle" ∧ (yX5_multichainsOf).cls ≠ "java/lang/invoke/VarHandle" ∧ (parseMethodDescriptor (yX5_multichainsOf).desc).map (fun d => d.parameters.length) = some 3 := (by decide +kernel)
theorem cv_X11_350 : CV RX11 350 5 yX5_multichainsOf cX5_multichainsOf 5 (some .long) 3 := ⟨⟨TX5, cls_X5⟩, tt_of 1143 (by decide +kernel) rfl, mi_X5_multichainsOf, me_X5_multichainsOf, mn_X5_multichainsOf, mc_X5_multichainsOf, md_X5_multichainsOf, by decide⟩
theorem mc_X11_sets : Cond.code yX11_sets cX11_sets 3 (some .long) ∈ TT := tt_of 1150 (by decide +kernel) rfl
theorem mn_X11_sets : Cond.initialized (yX11_sets).cls ∈ TT := tt_of 151 (by decide +kernel) rfl
theorem mi_X11_sets : Cond.instanceMethod yX11_sets ∈ TT := tt_of 1148 (by decide +kernel) rfl
theorem me_X11_sets : Cond.selects (yX11_sets).cls yX11_sets yX11_sets ∈ TT := tt_of 1149 (by decide +kernel) rfl
theorem md_X11_sets : (yX11_sets).cls ≠ "java/lang/invoke/MethodHandle" ∧ (yX11_sets).cls ≠ "java/lang/invoke/VarHandle" ∧ (parseMethodDescriptor (yX11_sets).desc).map (fun d => d.parameters.length) = some 2 := (by decide +kernel)
theorem cv_L_107 : CV RL 107 11 yX11_sets cX11_sets 3 (some .long) 2 := ⟨⟨TX11, cls_X11⟩, tt_of 1147 (by decide +kernel) rfl, mi_X11_sets, me_X11_sets, mn_X11_sets, mc_X11_sets, md_X11_sets, by decide⟩
theorem mc_X7_downSets : Cond.code yX7_downSets cX7_downSets 4 (some .long) ∈ TT := tt_of 1154 (by decide +kernel) rfl
theorem mn_X7_downSets : Cond.initialized (yX7_downSets).cls ∈ TT := tt_of 161 (by decide +kernel) rfl
theorem mi_X7_downSets : Cond.instanceMethod yX7_downSets ∈ TT := tt_of 1152 (by decide +kernel) rfl
theorem me_X7_downSets : Cond.selects (yX7_downSets).cls yX7_downSets yX7_downSets ∈ TT := tt_of 1153 (by decide +kernel) rfl
theorem md_X7_downSets : (yX7_downSets).cls ≠ "java/lang/invoke/MethodHandle" ∧ (yX7_downSets).cls ≠ "java/lang/invoke/VarHandle" ∧ (parseMethodDescriptor (yX7_downSets).desc).map (fun d => d.parameters.length) = some 0 := (by decide +kernel)
theorem cv_X11_353 : CV RX11 353 7 yX7_downSets cX7_downSets 4 (some .long) 0 := ⟨⟨TX7, cls_X7⟩, tt_of 1151 (by decide +kernel) rfl, mi_X7_downSets, me_X7_downSets, mn_X7_downSets, mc_X7_downSets, md_X7_downSets, by decide⟩
theorem mc_X7_downSetsOf : Cond.code yX7_downSetsOf cX7_downSetsOf 2 (some .long) ∈ TT := tt_of 1158 (by decide +kernel) rfl
theorem mn_X7_downSetsOf : Cond.initialized (yX7_downSetsOf).cls ∈ TT := tt_of 161 (by decide +kernel) rfl
theorem mi_X7_downSetsOf : Cond.instanceMethod yX7_downSetsOf ∈ TT := tt_of 1156 (by decide +kernel) rfl
theorem me_X7_downSetsOf : Cond.selects (yX7_downSetsOf).cls yX7_downSetsOf yX7_downSetsOf ∈ TT := tt_of 1157 (by decide +kernel) rfl
theorem md_X7_downSetsOf : (yX7_downSetsOf).cls ≠ "java/lang/invoke/MethodHandle" ∧ (yX7_downSetsOf).cls ≠ "java/lang/invoke/VarHandle" ∧ (parseMethodDescriptor (yX7_downSetsOf).desc).map (fun d => d.parameters.length) = some 1 := (by decide +kernel)
theorem cv_X7_42 : CV RX7 42 7 yX7_downSetsOf cX7_downSetsOf 2 (some .long) 1 := ⟨⟨TX7, cls_X7⟩, tt_of 1155 (by decide +kernel) rfl, mi_X7_downSetsOf, me_X7_downSetsOf, mn_X7_downSetsOf, mc_X7_downSetsOf, md_X7_downSetsOf, by decide⟩
theorem ct_X7_46 : CT RX7 46 yJ7_fill_d0a16 cJ7_fill_d0a16 5 none 2 := ⟨tt_of 1159 (by decide +kernel) rfl, ms_J7_fill_d0a16, mn_J7_fill_d0a16, mc_J7_fill_d0a16, md_J7_fill_d0a16, by decide⟩
theorem mc_X7_addDownSets : Cond.code yX7_addDownSets cX7_addDownSets 7 none ∈ TT := tt_of 1163 (by decide +kernel) rfl
theorem mn_X7_addDownSets : Cond.initialized (yX7_addDownSets).cls ∈ TT := tt_of 161 (by decide +kernel) rfl
theorem mi_X7_addDownSets : Cond.instanceMethod yX7_addDownSets ∈ TT := tt_of 1162 (by decide +kernel) rfl
theorem me_X7_addDownSets : Cond.selects (yX7_addDownSets).cls yX7_addDownSets yX7_addDownSets ∈ TT := tt_of 41 (by decide +kernel) rfl
theorem md_X7_addDownSets : (yX7_addDownSets).cls ≠ "java/lang/invoke/MethodHandle" ∧ (yX7_addDownSets).cls ≠ "java/lang/invoke/VarHandle" ∧ (parseMethodDescriptor (yX7_addDownSets).desc).map (fun d => d.parameters.length) = some 3 := (by decide +kernel)
theorem cv_X7_56 : CV RX7 56 7 yX7_addDownSets cX7_addDownSets 7 none 3 := ⟨⟨TX7, cls_X7⟩, tt_of 1160 (by decide +kernel) rfl, mi_X7_addDownSets, me_X7_addDownSets, mn_X7_addDownSets, mc_X7_addDownSets, md_X7_addDownSets, by decide⟩
theorem mc_X7_fillChoices : Cond.code yX7_fillChoices cX7_fillChoices 4 none ∈ TT := tt_of 1167 (by decide +kernel) rfl
theorem mn_X7_fillChoices : Cond.initialized (yX7_fillChoices).cls ∈ TT := tt_of 161 (by decide +kernel) rfl
theorem mi_X7_fillChoices : Cond.instanceMethod yX7_fillChoices ∈ TT := tt_of 1166 (by decide +kernel) rfl
theorem me_X7_fillChoices : Cond.selects (yX7_fillChoices).cls yX7_fillChoices yX7_fillChoices ∈ TT := tt_of 42 (by decide +kernel) rfl
theorem md_X7_fillChoices : (yX7_fillChoices).cls ≠ "java/lang/invoke/MethodHandle" ∧ (yX7_fillChoices).cls ≠ "java/lang/invoke/VarHandle" ∧ (parseMethodDescriptor (yX7_fillChoices).desc).map (fun d => d.parameters.length) = some 1 := (by decide +kernel)
theorem cv_X7_69 : CV RX7 69 7 yX7_fillChoices cX7_fillChoices 4 none 1 := ⟨⟨TX7, cls_X7⟩, tt_of 1164 (by decide +kernel) rfl, mi_X7_fillChoices, me_X7_fillChoices, mn_X7_fillChoices, mc_X7_fillChoices, md_X7_fillChoices, by decide⟩
theorem cv_X7_73 : CV RX7 73 4 yX4_upTo cX4_upTo 2 (some .int) 1 := ⟨⟨TX4, cls_X4⟩, tt_of 1168 (by decide +kernel) rfl, mi_X4_upTo, me_X4_upTo, mn_X4_upTo, mc_X4_upTo, md_X4_upTo, by decide⟩
theorem cv_X7_76 : CV RX7 76 4 yX4_from cX4_from 2 (some .int) 1 := ⟨⟨TX4, cls_X4⟩, tt_of 1169 (by decide +kernel) rfl, mi_X4_from, me_X4_from, mn_X4_from, mc_X4_from, md_X4_from, by decide⟩
theorem mc_X7_extensions : Cond.code yX7_extensions cX7_extensions 1 (some .long) ∈ TT := tt_of 1173 (by decide +kernel) rfl
theorem mn_X7_extensions : Cond.initialized (yX7_extensions).cls ∈ TT := tt_of 161 (by decide +kernel) rfl
theorem mi_X7_extensions : Cond.instanceMethod yX7_extensions ∈ TT := tt_of 1171 (by decide +kernel) rfl
theorem me_X7_extensions : Cond.selects (yX7_extensions).cls yX7_extensions yX7_extensions ∈ TT := tt_of 1172 (by decide +kernel) rfl
theorem md_X7_extensions : (yX7_extensions).cls ≠ "java/lang/invoke/MethodHandle" ∧ (yX7_extensions).cls ≠ "java/lang/invoke/VarHandle" ∧ (parseMethodDescriptor (yX7_extensions).desc).map (fun d => d.parameters.length) = some 0 := (by decide +kernel)
theorem cv_X11_357 : CV RX11 357 7 yX7_extensions cX7_extensions 1 (some .long) 0 := ⟨⟨TX7, cls_X7⟩, tt_of 1170 (by decide +kernel) rfl, mi_X7_extensions, me_X7_extensions, mn_X7_extensions, mc_X7_extensions, md_X7_extensions, by decide⟩
theorem mc_X7_extensionsOf : Cond.code yX7_extensionsOf cX7_extensionsOf 7 (some .long) ∈ TT := tt_of 1177 (by decide +kernel) rfl
theorem mn_X7_extensionsOf : Cond.initialized (yX7_extensionsOf).cls ∈ TT := tt_of 161 (by decide +kernel) rfl
theorem mi_X7_extensionsOf : Cond.instanceMethod yX7_extensionsOf ∈ TT := tt_of 1176 (by decide +kernel) rfl
theorem me_X7_extensionsOf : Cond.selects (yX7_extensionsOf).cls yX7_extensionsOf yX7_extensionsOf ∈ TT := tt_of 43 (by decide +kernel) rfl
theorem md_X7_extensionsOf : (yX7_extensionsOf).cls ≠ "java/lang/invoke/MethodHandle" ∧ (yX7_extensionsOf).cls ≠ "java/lang/invoke/VarHandle" ∧ (parseMethodDescriptor (yX7_extensionsOf).desc).map (fun d => d.parameters.length) = some 2 := (by decide +kernel)
theorem cv_X7_97 : CV RX7 97 7 yX7_extensionsOf cX7_extensionsOf 7 (some .long) 2 := ⟨⟨TX7, cls_X7⟩, tt_of 1174 (by decide +kernel) rfl, mi_X7_extensionsOf, me_X7_extensionsOf, mn_X7_extensionsOf, mc_X7_extensionsOf, md_X7_extensionsOf, by decide⟩
theorem mc_X7_connected : Cond.code yX7_connected cX7_connected 6 (some .int) ∈ TT := tt_of 1181 (by decide +kernel) rfl
theorem mn_X7_connected : Cond.initialized (yX7_connected).cls ∈ TT := tt_of 161 (by decide +kernel) rfl
theorem mi_X7_connected : Cond.instanceMethod yX7_connected ∈ TT := tt_of 1180 (by decide +kernel) rfl
theorem me_X7_connected : Cond.selects (yX7_connected).cls yX7_connected yX7_connected ∈ TT := tt_of 44 (by decide +kernel) rfl
theorem md_X7_connected : (yX7_connected).cls ≠ "java/lang/invoke/MethodHandle" ∧ (yX7_connected).cls ≠ "java/lang/invoke/VarHandle" ∧ (parseMethodDescriptor (yX7_connected).desc).map (fun d => d.parameters.length) = some 2 := (by decide +kernel)
theorem cv_X7_105 : CV RX7 105 7 yX7_connected cX7_connected 6 (some .int) 2 := ⟨⟨TX7, cls_X7⟩, tt_of 1178 (by decide +kernel) rfl, mi_X7_connected, me_X7_connected, mn_X7_connected, mc_X7_connected, md_X7_connected, by decide⟩
theorem mc_X7_extensionsByDownSets : Cond.code yX7_extensionsByDownSets cX7_extensionsByDownSets 6 (some .long) ∈ TT := tt_of 1185 (by decide +kernel) rfl
theorem mn_X7_extensionsByDownSets : Cond.initialized (yX7_extensionsByDownSets).cls ∈ TT := tt_of 161 (by decide +kernel) rfl
theorem mi_X7_extensionsByDownSets : Cond.instanceMethod yX7_extensionsByDownSets ∈ TT := tt_of 1184 (by decide +kernel) rfl
theorem me_X7_extensionsByDownSets : Cond.selects (yX7_extensionsByDownSets).cls yX7_extensionsByDownSets yX7_extensionsByDownSets ∈ TT := tt_of 45 (by decide +kernel) rfl
theorem md_X7_extensionsByDownSets : (yX7_extensionsByDownSets).cls ≠ "java/lang/invoke/MethodHandle" ∧ (yX7_extensionsByDownSets).cls ≠ "java/lang/invoke/VarHandle" ∧ (parseMethodDescriptor (yX7_extensionsByDownSets).desc).map (fun d => d.parameters.length) = some 1 := (by decide +kernel)
theorem cv_X7_109 : CV RX7 109 7 yX7_extensionsByDownSets cX7_extensionsByDownSets 6 (some .long) 1 := ⟨⟨TX7, cls_X7⟩, tt_of 1182 (by decide +kernel) rfl, mi_X7_extensionsByDownSets, me_X7_extensionsByDownSets, mn_X7_extensionsByDownSets, mc_X7_extensionsByDownSets, md_X7_extensionsByDownSets, by decide⟩
theorem mc_X7_fillNeeds : Cond.code yX7_fillNeeds cX7_fillNeeds 4 (some .int) ∈ TT := tt_of 1189 (by decide +kernel) rfl
theorem mn_X7_fillNeeds : Cond.initialized (yX7_fillNeeds).cls ∈ TT := tt_of 161 (by decide +kernel) rfl
theorem mi_X7_fillNeeds : Cond.instanceMethod yX7_fillNeeds ∈ TT := tt_of 1188 (by decide +kernel) rfl
theorem me_X7_fillNeeds : Cond.selects (yX7_fillNeeds).cls yX7_fillNeeds yX7_fillNeeds ∈ TT := tt_of 46 (by decide +kernel) rfl
theorem md_X7_fillNeeds : (yX7_fillNeeds).cls ≠ "java/lang/invoke/MethodHandle" ∧ (yX7_fillNeeds).cls ≠ "java/lang/invoke/VarHandle" ∧ (parseMethodDescriptor (yX7_fillNeeds).desc).map (fun d => d.parameters.length) = some 1 := (by decide +kernel)
theorem cv_X7_112 : CV RX7 112 7 yX7_fillNeeds cX7_fillNeeds 4 (some .int) 1 := ⟨⟨TX7, cls_X7⟩, tt_of 1186 (by decide +kernel) rfl, mi_X7_fillNeeds, me_X7_fillNeeds, mn_X7_fillNeeds, mc_X7_fillNeeds, md_X7_fillNeeds, by decide⟩
theorem ct_X7_115 : CT RX7 115 yX4_packed cX4_packed 6 (some .int) 3 := ⟨tt_of 1190 (by decide +kernel) rfl, ms_X4_packed, mn_X4_packed, mc_X4_packed, md_X4_packed, by decide⟩
theorem cv_X11_360 : CV RX11 360 7 yX7_downSetsOf cX7_downSetsOf 2 (some .long) 1 := ⟨⟨TX7, cls_X7⟩, tt_of 1191 (by decide +kernel) rfl, mi_X7_downSetsOf, me_X7_downSetsOf, mn_X7_downSetsOf, mc_X7_downSetsOf, md_X7_downSetsOf, by decide⟩
theorem mc_X11_type : Cond.code yX11_type cX11_type 3 (some .int) ∈ TT := tt_of 1195 (by decide +kernel) rfl
theorem mn_X11_type : Cond.initialized (yX11_type).cls ∈ TT := tt_of 151 (by decide +kernel) rfl
theorem mi_X11_type : Cond.instanceMethod yX11_type ∈ TT := tt_of 1193 (by decide +kernel) rfl
theorem me_X11_type : Cond.selects (yX11_type).cls yX11_type yX11_type ∈ TT := tt_of 1194 (by decide +kernel) rfl
theorem md_X11_type : (yX11_type).cls ≠ "java/lang/invoke/MethodHandle" ∧ (yX11_type).cls ≠ "java/lang/invoke/VarHandle" ∧ (parseMethodDescriptor (yX11_type).desc).map (fun d => d.parameters.length) = some 2 := (by decide +kernel)
theorem cv_L_112 : CV RL 112 11 yX11_type cX11_type 3 (some .int) 2 := ⟨⟨TX11, cls_X11⟩, tt_of 1192 (by decide +kernel) rfl, mi_X11_type, me_X11_type, mn_X11_type, mc_X11_type, md_X11_type, by decide⟩
theorem mc_X11_split : Cond.code yX11_split cX11_split 4 (some .int) ∈ TT := tt_of 1199 (by decide +kernel) rfl
theorem mn_X11_split : Cond.initialized (yX11_split).cls ∈ TT := tt_of 151 (by decide +kernel) rfl
theorem mi_X11_split : Cond.instanceMethod yX11_split ∈ TT := tt_of 1197 (by decide +kernel) rfl
theorem me_X11_split : Cond.selects (yX11_split).cls yX11_split yX11_split ∈ TT := tt_of 1198 (by decide +kernel) rfl
theorem md_X11_split : (yX11_split).cls ≠ "java/lang/invoke/MethodHandle" ∧ (yX11_split).cls ≠ "java/lang/invoke/VarHandle" ∧ (parseMethodDescriptor (yX11_split).desc).map (fun d => d.parameters.length) = some 3 := (by decide +kernel)
theorem cv_L_116 : CV RL 116 11 yX11_split cX11_split 4 (some .int) 3 := ⟨⟨TX11, cls_X11⟩, tt_of 1196 (by decide +kernel) rfl, mi_X11_split, me_X11_split, mn_X11_split, mc_X11_split, md_X11_split, by decide⟩
theorem mc_X2_hasType : Cond.code yX2_hasType cX2_hasType 2 (some .boolean) ∈ TT := tt_of 1203 (by decide +kernel) rfl
theorem mn_X2_hasType : Cond.initialized (yX2_hasType).cls ∈ TT := tt_of 160 (by decide +kernel) rfl
theorem mi_X2_hasType : Cond.instanceMethod yX2_hasType ∈ TT := tt_of 1201 (by decide +kernel) rfl
theorem me_X2_hasType : Cond.selects (yX2_hasType).cls yX2_hasType yX2_hasType ∈ TT := tt_of 1202 (by decide +kernel) rfl
theorem md_X2_hasType : (yX2_hasType).cls ≠ "java/lang/invoke/MethodHandle" ∧ (yX2_hasType).cls ≠ "java/lang/invoke/VarHandle" ∧ (parseMethodDescriptor (yX2_hasType).desc).map (fun d => d.parameters.length) = some 1 := (by decide +kernel)
theorem cv_X11_370 : CV RX11 370 2 yX2_hasType cX2_hasType 2 (some .boolean) 1 := ⟨⟨TX2, cls_X2⟩, tt_of 1200 (by decide +kernel) rfl, mi_X2_hasType, me_X2_hasType, mn_X2_hasType, mc_X2_hasType, md_X2_hasType, by decide⟩
theorem mc_X2_splits : Cond.code yX2_splits cX2_splits 9 (some .int) ∈ TT := tt_of 1207 (by decide +kernel) rfl
theorem mn_X2_splits : Cond.initialized (yX2_splits).cls ∈ TT := tt_of 160 (by decide +kernel) rfl
theorem mi_X2_splits : Cond.instanceMethod yX2_splits ∈ TT := tt_of 1205 (by decide +kernel) rfl
theorem me_X2_splits : Cond.selects (yX2_splits).cls yX2_splits yX2_splits ∈ TT := tt_of 1206 (by decide +kernel) rfl
theorem md_X2_splits : (yX2_splits).cls ≠ "java/lang/invoke/MethodHandle" ∧ (yX2_splits).cls ≠ "java/lang/invoke/VarHandle" ∧ (parseMethodDescriptor (yX2_splits).desc).map (fun d => d.parameters.length) = some 3 := (by decide +kernel)
theorem cv_X11_373 : CV RX11 373 2 yX2_splits cX2_splits 9 (some .int) 3 := ⟨⟨TX2, cls_X2⟩, tt_of 1204 (by decide +kernel) rfl, mi_X2_splits, me_X2_splits, mn_X2_splits, mc_X2_splits, md_X2_splits, by decide⟩
theorem cv_X2_61 : CV RX2 61 2 yX2_typeOf cX2_typeOf 3 (some .int) 2 := ⟨⟨TX2, cls_X2⟩, tt_of 1208 (by decide +kernel) rfl, mi_X2_typeOf, me_X2_typeOf, mn_X2_typeOf, mc_X2_typeOf, md_X2_typeOf, by decide⟩
theorem mc_X11_reduced : Cond.code yX11_reduced cX11_reduced 3 (some .long) ∈ TT := tt_of 1212 (by decide +kernel) rfl
theorem mn_X11_reduced : Cond.initialized (yX11_reduced).cls ∈ TT := tt_of 151 (by decide +kernel) rfl
theorem mi_X11_reduced : Cond.instanceMethod yX11_reduced ∈ TT := tt_of 1210 (by decide +kernel) rfl
theorem me_X11_reduced : Cond.selects (yX11_reduced).cls yX11_reduced yX11_reduced ∈ TT := tt_of 1211 (by decide +kernel) rfl
theorem md_X11_reduced : (yX11_reduced).cls ≠ "java/lang/invoke/MethodHandle" ∧ (yX11_reduced).cls ≠ "java/lang/invoke/VarHandle" ∧ (parseMethodDescriptor (yX11_reduced).desc).map (fun d => d.parameters.length) = some 2 := (by decide +kernel)
theorem cv_L_120 : CV RL 120 11 yX11_reduced cX11_reduced 3 (some .long) 2 := ⟨⟨TX11, cls_X11⟩, tt_of 1209 (by decide +kernel) rfl, mi_X11_reduced, me_X11_reduced, mn_X11_reduced, mc_X11_reduced, md_X11_reduced, by decide⟩
theorem mc_X11_data : Cond.code yX11_data cX11_data 4 (some .int) ∈ TT := tt_of 1216 (by decide +kernel) rfl
theorem mn_X11_data : Cond.initialized (yX11_data).cls ∈ TT := tt_of 151 (by decide +kernel) rfl
theorem mi_X11_data : Cond.instanceMethod yX11_data ∈ TT := tt_of 1214 (by decide +kernel) rfl
theorem me_X11_data : Cond.selects (yX11_data).cls yX11_data yX11_data ∈ TT := tt_of 1215 (by decide +kernel) rfl
theorem md_X11_data : (yX11_data).cls ≠ "java/lang/invoke/MethodHandle" ∧ (yX11_data).cls ≠ "java/lang/invoke/VarHandle" ∧ (parseMethodDescriptor (yX11_data).desc).map (fun d => d.parameters.length) = some 2 := (by decide +kernel)
theorem cv_L_61 : CV RL 61 11 yX11_data cX11_data 4 (some .int) 2 := ⟨⟨TX11, cls_X11⟩, tt_of 1213 (by decide +kernel) rfl, mi_X11_data, me_X11_data, mn_X11_data, mc_X11_data, md_X11_data, by decide⟩
theorem mc_X11_summed : Cond.code yX11_summed cX11_summed 5 (some .long) ∈ TT := tt_of 1220 (by decide +kernel) rfl
theorem mn_X11_summed : Cond.initialized (yX11_summed).cls ∈ TT := tt_of 151 (by decide +kernel) rfl
theorem mi_X11_summed : Cond.instanceMethod yX11_summed ∈ TT := tt_of 1218 (by decide +kernel) rfl
theorem me_X11_summed : Cond.selects (yX11_summed).cls yX11_summed yX11_summed ∈ TT := tt_of 1219 (by decide +kernel) rfl
theorem md_X11_summed : (yX11_summed).cls ≠ "java/lang/invoke/MethodHandle" ∧ (yX11_summed).cls ≠ "java/lang/invoke/VarHandle" ∧ (parseMethodDescriptor (yX11_summed).desc).map (fun d => d.parameters.length) = some 2 := (by decide +kernel)
theorem cv_L_124 : CV RL 124 11 yX11_summed cX11_summed 5 (some .long) 2 := ⟨⟨TX11, cls_X11⟩, tt_of 1217 (by decide +kernel) rfl, mi_X11_summed, me_X11_summed, mn_X11_summed, mc_X11_summed, md_X11_summed, by decide⟩
theorem cv_X11_385 : CV RX11 385 9 yX9_add cX9_add 5 none 1 := ⟨⟨TX9, cls_X9⟩, tt_of 1221 (by decide +kernel) rfl, mi_X9_add, me_X9_add, mn_X9_add, mc_X9_add, md_X9_add, by decide⟩
theorem mc_X11_gotBack : Cond.code yX11_gotBack cX11_gotBack 5 (some .long) ∈ TT := tt_of 1225 (by decide +kernel) rfl
theorem mn_X11_gotBack : Cond.initialized (yX11_gotBack).cls ∈ TT := tt_of 151 (by decide +kernel) rfl
theorem mi_X11_gotBack : Cond.instanceMethod yX11_gotBack ∈ TT := tt_of 1223 (by decide +kernel) rfl
theorem me_X11_gotBack : Cond.selects (yX11_gotBack).cls yX11_gotBack yX11_gotBack ∈ TT := tt_of 1224 (by decide +kernel) rfl
theorem md_X11_gotBack : (yX11_gotBack).cls ≠ "java/lang/invoke/MethodHandle" ∧ (yX11_gotBack).cls ≠ "java/lang/invoke/VarHandle" ∧ (parseMethodDescriptor (yX11_gotBack).desc).map (fun d => d.parameters.length) = some 2 := (by decide +kernel)
theorem cv_L_128 : CV RL 128 11 yX11_gotBack cX11_gotBack 5 (some .long) 2 := ⟨⟨TX11, cls_X11⟩, tt_of 1222 (by decide +kernel) rfl, mi_X11_gotBack, me_X11_gotBack, mn_X11_gotBack, mc_X11_gotBack, md_X11_gotBack, by decide⟩
theorem cv_X11_393 : CV RX11 393 9 yX9_addProduct cX9_addProduct 5 none 2 := ⟨⟨TX9, cls_X9⟩, tt_of 1226 (by decide +kernel) rfl, mi_X9_addProduct, me_X9_addProduct, mn_X9_addProduct, mc_X9_addProduct, md_X9_addProduct, by decide⟩
theorem mc_X11_coefficient : Cond.code yX11_coefficient cX11_coefficient 8 (some .long) ∈ TT := tt_of 1230 (by decide +kernel) rfl
theorem mn_X11_coefficient : Cond.initialized (yX11_coefficient).cls ∈ TT := tt_of 151 (by decide +kernel) rfl
theorem mi_X11_coefficient : Cond.instanceMethod yX11_coefficient ∈ TT := tt_of 1228 (by decide +kernel) rfl
theorem me_X11_coefficient : Cond.selects (yX11_coefficient).cls yX11_coefficient yX11_coefficient ∈ TT := tt_of 1229 (by decide +kernel) rfl
theorem md_X11_coefficient : (yX11_coefficient).cls ≠ "java/lang/invoke/MethodHandle" ∧ (yX11_coefficient).cls ≠ "java/lang/invoke/VarHandle" ∧ (parseMethodDescriptor (yX11_coefficient).desc).map (fun d => d.parameters.length) = some 1 := (by decide +kernel)
theorem cv_L_144 : CV RL 144 11 yX11_coefficient cX11_coefficient 8 (some .long) 1 := ⟨⟨TX11, cls_X11⟩, tt_of 1227 (by decide +kernel) rfl, mi_X11_coefficient, me_X11_coefficient, mn_X11_coefficient, mc_X11_coefficient, md_X11_coefficient, by decide⟩
theorem mc_X11_point : Cond.code yX11_point cX11_point 3 (some .int) ∈ TT := tt_of 1234 (by decide +kernel) rfl
theorem mn_X11_point : Cond.initialized (yX11_point).cls ∈ TT := tt_of 151 (by decide +kernel) rfl
theorem mi_X11_point : Cond.instanceMethod yX11_point ∈ TT := tt_of 1232 (by decide +kernel) rfl
theorem me_X11_point : Cond.selects (yX11_point).cls yX11_point yX11_point ∈ TT := tt_of 1233 (by decide +kernel) rfl
theorem md_X11_point : (yX11_point).cls ≠ "java/lang/invoke/MethodHandle" ∧ (yX11_point).cls ≠ "java/lang/invoke/VarHandle" ∧ (parseMethodDescriptor (yX11_point).desc).map (fun d => d.parameters.length) = some 2 := (by decide +kernel)
theorem cv_L_66 : CV RL 66 11 yX11_point cX11_point 3 (some .int) 2 := ⟨⟨TX11, cls_X11⟩, tt_of 1231 (by decide +kernel) rfl, mi_X11_point, me_X11_point, mn_X11_point, mc_X11_point, md_X11_point, by decide⟩
theorem mc_X11_isThere : Cond.code yX11_isThere cX11_isThere 2 (some .boolean) ∈ TT := tt_of 1238 (by decide +kernel) rfl
theorem mn_X11_isThere : Cond.initialized (yX11_isThere).cls ∈ TT := tt_of 151 (by decide +kernel) rfl
theorem mi_X11_isThere : Cond.instanceMethod yX11_isThere ∈ TT := tt_of 1237 (by decide +kernel) rfl
theorem me_X11_isThere : Cond.selects (yX11_isThere).cls yX11_isThere yX11_isThere ∈ TT := tt_of 47 (by decide +kernel) rfl
theorem md_X11_isThere : (yX11_isThere).cls ≠ "java/lang/invoke/MethodHandle" ∧ (yX11_isThere).cls ≠ "java/lang/invoke/VarHandle" ∧ (parseMethodDescriptor (yX11_isThere).desc).map (fun d => d.parameters.length) = some 1 := (by decide +kernel)
theorem cv_X11_397 : CV RX11 397 11 yX11_isThere cX11_isThere 2 (some .boolean) 1 := ⟨⟨TX11, cls_X11⟩, tt_of 1235 (by decide +kernel) rfl, mi_X11_isThere, me_X11_isThere, mn_X11_isThere, mc_X11_isThere, md_X11_isThere, by decide⟩
theorem mc_X11_mapped : Cond.code yX11_mapped cX11_mapped 4 (some .int) ∈ TT := tt_of 1242 (by decide +kernel) rfl
theorem mn_X11_mapped : Cond.initialized (yX11_mapped).cls ∈ TT := tt_of 151 (by decide +kernel) rfl
theorem mi_X11_mapped : Cond.instanceMethod yX11_mapped ∈ TT := tt_of 1240 (by decide +kernel) rfl
theorem me_X11_mapped : Cond.selects (yX11_mapped).cls yX11_mapped yX11_mapped ∈ TT := tt_of 1241 (by decide +kernel) rfl
theorem md_X11_mapped : (yX11_mapped).cls ≠ "java/lang/invoke/MethodHandle" ∧ (yX11_mapped).cls ≠ "java/lang/invoke/VarHandle" ∧ (parseMethodDescriptor (yX11_mapped).desc).map (fun d => d.parameters.length) = some 1 := (by decide +kernel)
theorem cv_L_132 : CV RL 132 11 yX11_mapped cX11_mapped 4 (some .int) 1 := ⟨⟨TX11, cls_X11⟩, tt_of 1239 (by decide +kernel) rfl, mi_X11_mapped, me_X11_mapped, mn_X11_mapped, mc_X11_mapped, md_X11_mapped, by decide⟩
theorem mc_X3_isWhole : Cond.code yX3_isWhole cX3_isWhole 2 (some .boolean) ∈ TT := tt_of 1246 (by decide +kernel) rfl
theorem mn_X3_isWhole : Cond.initialized (yX3_isWhole).cls ∈ TT := tt_of 157 (by decide +kernel) rfl
theorem mi_X3_isWhole : Cond.instanceMethod yX3_isWhole ∈ TT := tt_of 1244 (by decide +kernel) rfl
theorem me_X3_isWhole : Cond.selects (yX3_isWhole).cls yX3_isWhole yX3_isWhole ∈ TT := tt_of 1245 (by decide +kernel) rfl
theorem md_X3_isWhole : (yX3_isWhole).cls ≠ "java/lang/invoke/MethodHandle" ∧ (yX3_isWhole).cls ≠ "java/lang/invoke/VarHandle" ∧ (parseMethodDescriptor (yX3_isWhole).desc).map (fun d => d.parameters.length) = some 0 := (by decide +kernel)
theorem cv_X11_400 : CV RX11 400 3 yX3_isWhole cX3_isWhole 2 (some .boolean) 0 := ⟨⟨TX3, cls_X3⟩, tt_of 1243 (by decide +kernel) rfl, mi_X3_isWhole, me_X3_isWhole, mn_X3_isWhole, mc_X3_isWhole, md_X3_isWhole, by decide⟩
theorem mc_X3_isMonotone : Cond.code yX3_isMonotone cX3_isMonotone 3 (some .boolean) ∈ TT := tt_of 1250 (by decide +kernel) rfl
theorem mn_X3_isMonotone : Cond.initialized (yX3_isMonotone).cls ∈ TT := tt_of 157 (by decide +kernel) rfl
theorem mi_X3_isMonotone : Cond.instanceMethod yX3_isMonotone ∈ TT := tt_of 1248 (by decide +kernel) rfl
theorem me_X3_isMonotone : Cond.selects (yX3_isMonotone).cls yX3_isMonotone yX3_isMonotone ∈ TT := tt_of 1249 (by decide +kernel) rfl
theorem md_X3_isMonotone : (yX3_isMonotone).cls ≠ "java/lang/invoke/MethodHandle" ∧ (yX3_isMonotone).cls ≠ "java/lang/invoke/VarHandle" ∧ (parseMethodDescriptor (yX3_isMonotone).desc).map (fun d => d.parameters.length) = some 0 := (by decide +kernel)
theorem cv_X11_403 : CV RX11 403 3 yX3_isMonotone cX3_isMonotone 3 (some .boolean) 0 := ⟨⟨TX3, cls_X3⟩, tt_of 1247 (by decide +kernel) rfl, mi_X3_isMonotone, me_X3_isMonotone, mn_X3_isMonotone, mc_X3_isMonotone, md_X3_isMonotone, by decide⟩
theorem cv_X3_34 : CV RX3 34 4 yX4_atMost cX4_atMost 3 (some .boolean) 2 := ⟨⟨TX4, cls_X4⟩, tt_of 1251 (by decide +kernel) rfl, mi_X4_atMost, me_X4_atMost, mn_X4_atMost, mc_X4_atMost, md_X4_atMost, by decide⟩
theorem mc_X3_isJoined : Cond.code yX3_isJoined cX3_isJoined 2 (some .boolean) ∈ TT := tt_of 1255 (by decide +kernel) rfl
theorem mn_X3_isJoined : Cond.initialized (yX3_isJoined).cls ∈ TT := tt_of 157 (by decide +kernel) rfl
theorem mi_X3_isJoined : Cond.instanceMethod yX3_isJoined ∈ TT := tt_of 1253 (by decide +kernel) rfl
theorem me_X3_isJoined : Cond.selects (yX3_isJoined).cls yX3_isJoined yX3_isJoined ∈ TT := tt_of 1254 (by decide +kernel) rfl
theorem md_X3_isJoined : (yX3_isJoined).cls ≠ "java/lang/invoke/MethodHandle" ∧ (yX3_isJoined).cls ≠ "java/lang/invoke/VarHandle" ∧ (parseMethodDescriptor (yX3_isJoined).desc).map (fun d => d.parameters.length) = some 0 := (by decide +kernel)
theorem cv_X11_406 : CV RX11 406 3 yX3_isJoined cX3_isJoined 2 (some .boolean) 0 := ⟨⟨TX3, cls_X3⟩, tt_of 1252 (by decide +kernel) rfl, mi_X3_isJoined, me_X3_isJoined, mn_X3_isJoined, mc_X3_isJoined, md_X3_isJoined, by decide⟩
theorem mc_X3_adjointOf : Cond.code yX3_adjointOf cX3_adjointOf 4 (some .int) ∈ TT := tt_of 1259 (by decide +kernel) rfl
theorem mn_X3_adjointOf : Cond.initialized (yX3_adjointOf).cls ∈ TT := tt_of 157 (by decide +kernel) rfl
theorem mi_X3_adjointOf : Cond.instanceMethod yX3_adjointOf ∈ TT := tt_of 1257 (by decide +kernel) rfl
theorem me_X3_adjointOf : Cond.selects (yX3_adjointOf).cls yX3_adjointOf yX3_adjointOf ∈ TT := tt_of 1258 (by decide +kernel) rfl
theorem md_X3_adjointOf : (yX3_adjointOf).cls ≠ "java/lang/invoke/MethodHandle" ∧ (yX3_adjointOf).cls ≠ "java/lang/invoke/VarHandle" ∧ (parseMethodDescriptor (yX3_adjointOf).desc).map (fun d => d.parameters.length) = some 1 := (by decide +kernel)
theorem cv_X3_42 : CV RX3 42 3 yX3_adjointOf cX3_adjointOf 4 (some .int) 1 := ⟨⟨TX3, cls_X3⟩, tt_of 1256 (by decide +kernel) rfl, mi_X3_adjointOf, me_X3_adjointOf, mn_X3_adjointOf, mc_X3_adjointOf, md_X3_adjointOf, by decide⟩
theorem cv_X3_38 : CV RX3 38 4 yX4_greatest cX4_greatest 3 (some .int) 1 := ⟨⟨TX4, cls_X4⟩, tt_of 1260 (by decide +kernel) rfl, mi_X4_greatest, me_X4_greatest, mn_X4_greatest, mc_X4_greatest, md_X4_greatest, by decide⟩
theorem cv_X3_45 : CV RX3 45 3 yX3_isWhole cX3_isWhole 2 (some .boolean) 0 := ⟨⟨TX3, cls_X3⟩, tt_of 1261 (by decide +kernel) rfl, mi_X3_isWhole, me_X3_isWhole, mn_X3_isWhole, mc_X3_isWhole, md_X3_isWhole, by decide⟩
theorem mc_X11_adjoint : Cond.code yX11_adjoint cX11_adjoint 2 (some .int) ∈ TT := tt_of 1265 (by decide +kernel) rfl
theorem mn_X11_adjoint : Cond.initialized (yX11_adjoint).cls ∈ TT := tt_of 151 (by decide +kernel) rfl
theorem mi_X11_adjoint : Cond.instanceMethod yX11_adjoint ∈ TT := tt_of 1263 (by decide +kernel) rfl
theorem me_X11_adjoint : Cond.selects (yX11_adjoint).cls yX11_adjoint yX11_adjoint ∈ TT := tt_of 1264 (by decide +kernel) rfl
theorem md_X11_adjoint : (yX11_adjoint).cls ≠ "java/lang/invoke/MethodHandle" ∧ (yX11_adjoint).cls ≠ "java/lang/invoke/VarHandle" ∧ (parseMethodDescriptor (yX11_adjoint).desc).map (fun d => d.parameters.length) = some 1 := (by decide +kernel)
theorem cv_L_136 : CV RL 136 11 yX11_adjoint cX11_adjoint 2 (some .int) 1 := ⟨⟨TX11, cls_X11⟩, tt_of 1262 (by decide +kernel) rfl, mi_X11_adjoint, me_X11_adjoint, mn_X11_adjoint, mc_X11_adjoint, md_X11_adjoint, by decide⟩
theorem cv_X11_409 : CV RX11 409 3 yX3_adjointOf cX3_adjointOf 4 (some .int) 1 := ⟨⟨TX3, cls_X3⟩, tt_of 1266 (by decide +kernel) rfl, mi_X3_adjointOf, me_X3_adjointOf, mn_X3_adjointOf, mc_X3_adjointOf, md_X3_adjointOf, by decide⟩
theorem mc_X11_side : Cond.code yX11_side cX11_side 4 (some .long) ∈ TT := tt_of 1270 (by decide +kernel) rfl
theorem mn_X11_side : Cond.initialized (yX11_side).cls ∈ TT := tt_of 151 (by decide +kernel) rfl
theorem mi_X11_side : Cond.instanceMethod yX11_side ∈ TT := tt_of 1268 (by decide +kernel) rfl
theorem me_X11_side : Cond.selects (yX11_side).cls yX11_side yX11_side ∈ TT := tt_of 1269 (by decide +kernel) rfl
theorem md_X11_side : (yX11_side).cls ≠ "java/lang/invoke/MethodHandle" ∧ (yX11_side).cls ≠ "java/lang/invoke/VarHandle" ∧ (parseMethodDescriptor (yX11_side).desc).map (fun d => d.parameters.length) = some 3 := (by decide +kernel)
theorem cv_L_140 : CV RL 140 11 yX11_side cX11_side 4 (some .long) 3 := ⟨⟨TX11, cls_X11⟩, tt_of 1267 (by decide +kernel) rfl, mi_X11_side, me_X11_side, mn_X11_side, mc_X11_side, md_X11_side, by decide⟩
theorem mc_X3_sideHere : Cond.code yX3_sideHere cX3_sideHere 7 (some .long) ∈ TT := tt_of 1274 (by decide +kernel) rfl
theorem mn_X3_sideHere : Cond.initialized (yX3_sideHere).cls ∈ TT := tt_of 157 (by decide +kernel) rfl
theorem mi_X3_sideHere : Cond.instanceMethod yX3_sideHere ∈ TT := tt_of 1272 (by decide +kernel) rfl
theorem me_X3_sideHere : Cond.selects (yX3_sideHere).cls yX3_sideHere yX3_sideHere ∈ TT := tt_of 1273 (by decide +kernel) rfl
theorem md_X3_sideHere : (yX3_sideHere).cls ≠ "java/lang/invoke/MethodHandle" ∧ (yX3_sideHere).cls ≠ "java/lang/invoke/VarHandle" ∧ (parseMethodDescriptor (yX3_sideHere).desc).map (fun d => d.parameters.length) = some 3 := (by decide +kernel)
theorem cv_X11_412 : CV RX11 412 3 yX3_sideHere cX3_sideHere 7 (some .long) 3 := ⟨⟨TX3, cls_X3⟩, tt_of 1271 (by decide +kernel) rfl, mi_X3_sideHere, me_X3_sideHere, mn_X3_sideHere, mc_X3_sideHere, md_X3_sideHere, by decide⟩
theorem cv_X3_49 : CV RX3 49 4 yX4_moebiusFrom cX4_moebiusFrom 5 none 2 := ⟨⟨TX4, cls_X4⟩, tt_of 1275 (by decide +kernel) rfl, mi_X4_moebiusFrom, me_X4_moebiusFrom, mn_X4_moebiusFrom, mc_X4_moebiusFrom, md_X4_moebiusFrom, by decide⟩
theorem mc_X3_sideThere : Cond.code yX3_sideThere cX3_sideThere 7 (some .long) ∈ TT := tt_of 1279 (by decide +kernel) rfl
theorem mn_X3_sideThere : Cond.initialized (yX3_sideThere).cls ∈ TT := tt_of 157 (by decide +kernel) rfl
theorem mi_X3_sideThere : Cond.instanceMethod yX3_sideThere ∈ TT := tt_of 1277 (by decide +kernel) rfl
theorem me_X3_sideThere : Cond.selects (yX3_sideThere).cls yX3_sideThere yX3_sideThere ∈ TT := tt_of 1278 (by decide +kernel) rfl
theorem md_X3_sideThere : (yX3_sideThere).cls ≠ "java/lang/invoke/MethodHandle" ∧ (yX3_sideThere).cls ≠ "java/lang/invoke/VarHandle" ∧ (parseMethodDescriptor (yX3_sideThere).desc).map (fun d => d.parameters.length) = some 3 := (by decide +kernel)
theorem cv_X11_416 : CV RX11 416 3 yX3_sideThere cX3_sideThere 7 (some .long) 3 := ⟨⟨TX3, cls_X3⟩, tt_of 1276 (by decide +kernel) rfl, mi_X3_sideThere, me_X3_sideThere, mn_X3_sideThere, mc_X3_sideThere, md_X3_sideThere, by decide⟩
theorem cv_X3_53 : CV RX3 53 4 yX4_moebiusTo cX4_moebiusTo 5 none 2 := ⟨⟨TX4, cls_X4⟩, tt_of 1280 (by decide +kernel) rfl, mi_X4_moebiusTo, me_X4_moebiusTo, mn_X4_moebiusTo, mc_X4_moebiusTo, md_X4_moebiusTo, by decide⟩
theorem mc_X12_clears : Cond.code yX12_clears cX12_clears 2 none ∈ TT := tt_of 1291 (by decide +kernel) rfl
theorem mn_X12_clears : Cond.initialized (yX12_clears).cls ∈ TT := tt_of 163 (by decide +kernel) rfl
theorem mi_X12_clears : Cond.instanceMethod yX12_clears ∈ TT := tt_of 1290 (by decide +kernel) rfl
theorem me_X12_clears : Cond.selects (yX12_clears).cls yX12_clears yX12_clears ∈ TT := tt_of 48 (by decide +kernel) rfl
theorem md_X12_clears : (yX12_clears).cls ≠ "java/lang/invoke/MethodHandle" ∧ (yX12_clears).cls ≠ "java/lang/invoke/VarHandle" ∧ (parseMethodDescriptor (yX12_clears).desc).map (fun d => d.parameters.length) = some 0 := (by decide +kernel)
theorem cv_X12_75 : CV RX12 75 12 yX12_clears cX12_clears 2 none 0 := ⟨⟨TX12, cls_X12⟩, tt_of 1288 (by decide +kernel) rfl, mi_X12_clears, me_X12_clears, mn_X12_clears, mc_X12_clears, md_X12_clears, by decide⟩
theorem mc_X12_undo : Cond.code yX12_undo cX12_undo 2 (some .int) ∈ TT := tt_of 1396 (by decide +kernel) rfl
theorem mn_X12_undo : Cond.initialized (yX12_undo).cls ∈ TT := tt_of 163 (by decide +kernel) rfl
theorem mi_X12_undo : Cond.instanceMethod yX12_undo ∈ TT := tt_of 1394 (by decide +kernel) rfl
theorem me_X12_undo : Cond.selects (yX12_undo).cls yX12_undo yX12_undo ∈ TT := tt_of 1395 (by decide +kernel) rfl
theorem md_X12_undo : (yX12_undo).cls ≠ "java/lang/invoke/MethodHandle" ∧ (yX12_undo).cls ≠ "java/lang/invoke/VarHandle" ∧ (parseMethodDescriptor (yX12_undo).desc).map (fun d => d.parameters.length) = some 0 := (by decide +kernel)
theorem cv_L_73 : CV RL 73 12 yX12_undo cX12_undo 2 (some .int) 0 := ⟨⟨TX12, cls_X12⟩, tt_of 1393 (by decide +kernel) rfl, mi_X12_undo, me_X12_undo, mn_X12_undo, mc_X12_undo, md_X12_undo, by decide⟩
theorem mc_X12_forgetsMap : Cond.code yX12_forgetsMap cX12_forgetsMap 2 none ∈ TT := tt_of 1400 (by decide +kernel) rfl
theorem mn_X12_forgetsMap : Cond.initialized (yX12_forgetsMap).cls ∈ TT := tt_of 163 (by decide +kernel) rfl
theorem mi_X12_forgetsMap : Cond.instanceMethod yX12_forgetsMap ∈ TT := tt_of 1399 (by decide +kernel) rfl
theorem me_X12_forgetsMap : Cond.selects (yX12_forgetsMap).cls yX12_forgetsMap yX12_forgetsMap ∈ TT := tt_of 49 (by decide +kernel) rfl
theorem md_X12_forgetsMap : (yX12_forgetsMap).cls ≠ "java/lang/invoke/MethodHandle" ∧ (yX12_forgetsMap).cls ≠ "java/lang/invoke/VarHandle" ∧ (parseMethodDescriptor (yX12_forgetsMap).desc).map (fun d => d.parameters.length) = some 0 := (by decide +kernel)
theorem cv_X12_127 : CV RX12 127 12 yX12_forgetsMap cX12_forgetsMap 2 none 0 := ⟨⟨TX12, cls_X12⟩, tt_of 1397 (by decide +kernel) rfl, mi_X12_forgetsMap, me_X12_forgetsMap, mn_X12_forgetsMap, mc_X12_forgetsMap, md_X12_forgetsMap, by decide⟩
theorem mc_X12_keep : Cond.code yX12_keep cX12_keep 3 (some .int) ∈ TT := tt_of 1404 (by decide +kernel) rfl
theorem mn_X12_keep : Cond.initialized (yX12_keep).cls ∈ TT := tt_of 163 (by decide +kernel) rfl
theorem mi_X12_keep : Cond.instanceMethod yX12_keep ∈ TT := tt_of 1402 (by decide +kernel) rfl
theorem me_X12_keep : Cond.selects (yX12_keep).cls yX12_keep yX12_keep ∈ TT := tt_of 1403 (by decide +kernel) rfl
theorem md_X12_keep : (yX12_keep).cls ≠ "java/lang/invoke/MethodHandle" ∧ (yX12_keep).cls ≠ "java/lang/invoke/VarHandle" ∧ (parseMethodDescriptor (yX12_keep).desc).map (fun d => d.parameters.length) = some 1 := (by decide +kernel)
theorem cv_L_77 : CV RL 77 12 yX12_keep cX12_keep 3 (some .int) 1 := ⟨⟨TX12, cls_X12⟩, tt_of 1401 (by decide +kernel) rfl, mi_X12_keep, me_X12_keep, mn_X12_keep, mc_X12_keep, md_X12_keep, by decide⟩
theorem mc_X12_isIn : Cond.code yX12_isIn cX12_isIn 6 (some .boolean) ∈ TT := tt_of 1407 (by decide +kernel) rfl
theorem mn_X12_isIn : Cond.initialized (yX12_isIn).cls ∈ TT := tt_of 163 (by decide +kernel) rfl
theorem ms_X12_isIn : Cond.static yX12_isIn ∈ TT := tt_of 1406 (by decide +kernel) rfl
theorem md_X12_isIn : (yX12_isIn).cls ≠ "java/lang/invoke/MethodHandle" ∧ (yX12_isIn).cls ≠ "java/lang/invoke/VarHandle" ∧ (parseMethodDescriptor (yX12_isIn).desc).map (fun d => d.parameters.length) = some 3 := (by decide +kernel)
theorem ct_X12_82 : CT RX12 82 yX12_isIn cX12_isIn 6 (some .boolean) 3 := ⟨tt_of 1405 (by decide +kernel) rfl, ms_X12_isIn, mn_X12_isIn, mc_X12_isIn, md_X12_isIn, by decide⟩
theorem mc_X12_many : Cond.code yX12_many cX12_many 1 (some .int) ∈ TT := tt_of 1411 (by decide +kernel) rfl
theorem mn_X12_many : Cond.initialized (yX12_many).cls ∈ TT := tt_of 163 (by decide +kernel) rfl
theorem mi_X12_many : Cond.instanceMethod yX12_many ∈ TT := tt_of 1410 (by decide +kernel) rfl
theorem me_X12_many : Cond.selects (yX12_many).cls yX12_many yX12_many ∈ TT := tt_of 50 (by decide +kernel) rfl
theorem md_X12_many : (yX12_many).cls ≠ "java/lang/invoke/MethodHandle" ∧ (yX12_many).cls ≠ "java/lang/invoke/VarHandle" ∧ (parseMethodDescriptor (yX12_many).desc).map (fun d => d.parameters.length) = some 0 := (by decide +kernel)
theorem cv_X12_78 : CV RX12 78 12 yX12_many cX12_many 1 (some .int) 0 := ⟨⟨TX12, cls_X12⟩, tt_of 1408 (by decide +kernel) rfl, mi_X12_many, me_X12_many, mn_X12_many, mc_X12_many, md_X12_many, by decide⟩
theorem mc_X12_up : Cond.code yX12_up cX12_up 2 (some .int) ∈ TT := tt_of 1415 (by decide +kernel) rfl
theorem mn_X12_up : Cond.initialized (yX12_up).cls ∈ TT := tt_of 163 (by decide +kernel) rfl
theorem mi_X12_up : Cond.instanceMethod yX12_up ∈ TT := tt_of 1414 (by decide +kernel) rfl
theorem me_X12_up : Cond.selects (yX12_up).cls yX12_up yX12_up ∈ TT := tt_of 51 (by decide +kernel) rfl
theorem md_X12_up : (yX12_up).cls ≠ "java/lang/invoke/MethodHandle" ∧ (yX12_up).cls ≠ "java/lang/invoke/VarHandle" ∧ (parseMethodDescriptor (yX12_up).desc).map (fun d => d.parameters.length) = some 1 := (by decide +kernel)
theorem cv_X12_86 : CV RX12 86 12 yX12_up cX12_up 2 (some .int) 1 := ⟨⟨TX12, cls_X12⟩, tt_of 1412 (by decide +kernel) rfl, mi_X12_up, me_X12_up, mn_X12_up, mc_X12_up, md_X12_up, by decide⟩
theorem mc_X12_feed : Cond.code yX12_feed cX12_feed 8 (some .int) ∈ TT := tt_of 1419 (by decide +kernel) rfl
theorem mn_X12_feed : Cond.initialized (yX12_feed).cls ∈ TT := tt_of 163 (by decide +kernel) rfl
theorem mi_X12_feed : Cond.instanceMethod yX12_feed ∈ TT := tt_of 1417 (by decide +kernel) rfl
theorem me_X12_feed : Cond.selects (yX12_feed).cls yX12_feed yX12_feed ∈ TT := tt_of 1418 (by decide +kernel) rfl
theorem md_X12_feed : (yX12_feed).cls ≠ "java/lang/invoke/MethodHandle" ∧ (yX12_feed).cls ≠ "java/lang/invoke/VarHandle" ∧ (parseMethodDescriptor (yX12_feed).desc).map (fun d => d.parameters.length) = some 5 := (by decide +kernel)
theorem cv_L_17 : CV RL 17 12 yX12_feed cX12_feed 8 (some .int) 5 := ⟨⟨TX12, cls_X12⟩, tt_of 1416 (by decide +kernel) rfl, mi_X12_feed, me_X12_feed, mn_X12_feed, mc_X12_feed, md_X12_feed, by decide⟩
theorem mc_X12_end : Cond.code yX12_end cX12_end 2 (some .int) ∈ TT := tt_of 1423 (by decide +kernel) rfl
theorem mn_X12_end : Cond.initialized (yX12_end).cls ∈ TT := tt_of 163 (by decide +kernel) rfl
theorem mi_X12_end : Cond.instanceMethod yX12_end ∈ TT := tt_of 1421 (by decide +kernel) rfl
theorem me_X12_end : Cond.selects (yX12_end).cls yX12_end yX12_end ∈ TT := tt_of 1422 (by decide +kernel) rfl
theorem md_X12_end : (yX12_end).cls ≠ "java/lang/invoke/MethodHandle" ∧ (yX12_end).cls ≠ "java/lang/invoke/VarHandle" ∧ (parseMethodDescriptor (yX12_end).desc).map (fun d => d.parameters.length) = some 1 := (by decide +kernel)
theorem cv_L_22 : CV RL 22 12 yX12_end cX12_end 2 (some .int) 1 := ⟨⟨TX12, cls_X12⟩, tt_of 1420 (by decide +kernel) rfl, mi_X12_end, me_X12_end, mn_X12_end, mc_X12_end, md_X12_end, by decide⟩
theorem mc_X12_tell : Cond.code yX12_tell cX12_tell 2 (some .int) ∈ TT := tt_of 1427 (by decide +kernel) rfl
theorem mn_X12_tell : Cond.initialized (yX12_tell).cls ∈ TT := tt_of 163 (by decide +kernel) rfl
theorem mi_X12_tell : Cond.instanceMethod yX12_tell ∈ TT := tt_of 1425 (by decide +kernel) rfl
theorem me_X12_tell : Cond.selects (yX12_tell).cls yX12_tell yX12_tell ∈ TT := tt_of 1426 (by decide +kernel) rfl
theorem md_X12_tell : (yX12_tell).cls ≠ "java/lang/invoke/MethodHandle" ∧ (yX12_tell).cls ≠ "java/lang/invoke/VarHandle" ∧ (parseMethodDescriptor (yX12_tell).desc).map (fun d => d.parameters.length) = some 0 := (by decide +kernel)
theorem cv_L_27 : CV RL 27 12 yX12_tell cX12_tell 2 (some .int) 0 := ⟨⟨TX12, cls_X12⟩, tt_of 1424 (by decide +kernel) rfl, mi_X12_tell, me_X12_tell, mn_X12_tell, mc_X12_tell, md_X12_tell, by decide⟩
theorem mc_X12_readsText : Cond.code yX12_readsText cX12_readsText 1 (some .boolean) ∈ TT := tt_of 1431 (by decide +kernel) rfl
theorem mn_X12_readsText : Cond.initialized (yX12_readsText).cls ∈ TT := tt_of 163 (by decide +kernel) rfl
theorem mi_X12_readsText : Cond.instanceMethod yX12_readsText ∈ TT := tt_of 1430 (by decide +kernel) rfl
theorem me_X12_readsText : Cond.selects (yX12_readsText).cls yX12_readsText yX12_readsText ∈ TT := tt_of 52 (by decide +kernel) rfl
theorem md_X12_readsText : (yX12_readsText).cls ≠ "java/lang/invoke/MethodHandle" ∧ (yX12_readsText).cls ≠ "java/lang/invoke/VarHandle" ∧ (parseMethodDescriptor (yX12_readsText).desc).map (fun d => d.parameters.length) = some 0 := (by decide +kernel)
theorem cv_X12_230 : CV RX12 230 12 yX12_readsText cX12_readsText 1 (some .boolean) 0 := ⟨⟨TX12, cls_X12⟩, tt_of 1428 (by decide +kernel) rfl, mi_X12_readsText, me_X12_readsText, mn_X12_readsText, mc_X12_readsText, md_X12_readsText, by decide⟩
theorem mc_X12_readsKind : Cond.code yX12_readsKind cX12_readsKind 1 (some .boolean) ∈ TT := tt_of 1435 (by decide +kernel) rfl
theorem mn_X12_readsKind : Cond.initialized (yX12_readsKind).cls ∈ TT := tt_of 163 (by decide +kernel) rfl
theorem mi_X12_readsKind : Cond.instanceMethod yX12_readsKind ∈ TT := tt_of 1434 (by decide +kernel) rfl
theorem me_X12_readsKind : Cond.selects (yX12_readsKind).cls yX12_readsKind yX12_readsKind ∈ TT := tt_of 53 (by decide +kernel) rfl
theorem md_X12_readsKind : (yX12_readsKind).cls ≠ "java/lang/invoke/MethodHandle" ∧ (yX12_readsKind).cls ≠ "java/lang/invoke/VarHandle" ∧ (parseMethodDescriptor (yX12_readsKind).desc).map (fun d => d.parameters.length) = some 0 := (by decide +kernel)
theorem cv_X12_224 : CV RX12 224 12 yX12_readsKind cX12_readsKind 1 (some .boolean) 0 := ⟨⟨TX12, cls_X12⟩, tt_of 1432 (by decide +kernel) rfl, mi_X12_readsKind, me_X12_readsKind, mn_X12_readsKind, mc_X12_readsKind, md_X12_readsKind, by decide⟩
theorem mc_X12_isWord : Cond.code yX12_isWord cX12_isWord 4 (some .boolean) ∈ TT := tt_of 1440 (by decide +kernel) rfl
theorem mn_X12_isWord : Cond.initialized (yX12_isWord).cls ∈ TT := tt_of 163 (by decide +kernel) rfl
theorem mi_X12_isWord : Cond.instanceMethod yX12_isWord ∈ TT := tt_of 1439 (by decide +kernel) rfl
theorem me_X12_isWord : Cond.selects (yX12_isWord).cls yX12_isWord yX12_isWord ∈ TT := tt_of 54 (by decide +kernel) rfl
theorem md_X12_isWord : (yX12_isWord).cls ≠ "java/lang/invoke/MethodHandle" ∧ (yX12_isWord).cls ≠ "java/lang/invoke/VarHandle" ∧ (parseMethodDescriptor (yX12_isWord).desc).map (fun d => d.parameters.length) = some 1 := (by decide +kernel)
theorem cv_X12_196 : CV RX12 196 12 yX12_isWord cX12_isWord 4 (some .boolean) 1 := ⟨⟨TX12, cls_X12⟩, tt_of 1437 (by decide +kernel) rfl, mi_X12_isWord, me_X12_isWord, mn_X12_isWord, mc_X12_isWord, md_X12_isWord, by decide⟩
theorem mc_X12_next : Cond.code yX12_next cX12_next 1 (some .int) ∈ TT := tt_of 1444 (by decide +kernel) rfl
theorem mn_X12_next : Cond.initialized (yX12_next).cls ∈ TT := tt_of 163 (by decide +kernel) rfl
theorem mi_X12_next : Cond.instanceMethod yX12_next ∈ TT := tt_of 1443 (by decide +kernel) rfl
theorem me_X12_next : Cond.selects (yX12_next).cls yX12_next yX12_next ∈ TT := tt_of 55 (by decide +kernel) rfl
theorem md_X12_next : (yX12_next).cls ≠ "java/lang/invoke/MethodHandle" ∧ (yX12_next).cls ≠ "java/lang/invoke/VarHandle" ∧ (parseMethodDescriptor (yX12_next).desc).map (fun d => d.parameters.length) = some 0 := (by decide +kernel)
theorem cv_X12_142 : CV RX12 142 12 yX12_next cX12_next 1 (some .int) 0 := ⟨⟨TX12, cls_X12⟩, tt_of 1441 (by decide +kernel) rfl, mi_X12_next, me_X12_next, mn_X12_next, mc_X12_next, md_X12_next, by decide⟩
theorem mc_X12_byteAt : Cond.code yX12_byteAt cX12_byteAt 2 (some .int) ∈ TT := tt_of 1448 (by decide +kernel) rfl
theorem mn_X12_byteAt : Cond.initialized (yX12_byteAt).cls ∈ TT := tt_of 163 (by decide +kernel) rfl
theorem mi_X12_byteAt : Cond.instanceMethod yX12_byteAt ∈ TT := tt_of 1447 (by decide +kernel) rfl
theorem me_X12_byteAt : Cond.selects (yX12_byteAt).cls yX12_byteAt yX12_byteAt ∈ TT := tt_of 56 (by decide +kernel) rfl
theorem md_X12_byteAt : (yX12_byteAt).cls ≠ "java/lang/invoke/MethodHandle" ∧ (yX12_byteAt).cls ≠ "java/lang/invoke/VarHandle" ∧ (parseMethodDescriptor (yX12_byteAt).desc).map (fun d => d.parameters.length) = some 1 := (by decide +kernel)
theorem cv_X12_136 : CV RX12 136 12 yX12_byteAt cX12_byteAt 2 (some .int) 1 := ⟨⟨TX12, cls_X12⟩, tt_of 1445 (by decide +kernel) rfl, mi_X12_byteAt, me_X12_byteAt, mn_X12_byteAt, mc_X12_byteAt, md_X12_byteAt, by decide⟩
theorem mc_X12_readsFree : Cond.code yX12_readsFree cX12_readsFree 1 (some .boolean) ∈ TT := tt_of 1456 (by decide +kernel) rfl
theorem mn_X12_readsFree : Cond.initialized (yX12_readsFree).cls ∈ TT := tt_of 163 (by decide +kernel) rfl
theorem mi_X12_readsFree : Cond.instanceMethod yX12_readsFree ∈ TT := tt_of 1455 (by decide +kernel) rfl
theorem me_X12_readsFree : Cond.selects (yX12_readsFree).cls yX12_readsFree yX12_readsFree ∈ TT := tt_of 57 (by decide +kernel) rfl
theorem md_X12_readsFree : (yX12_readsFree).cls ≠ "java/lang/invoke/MethodHandle" ∧ (yX12_readsFree).cls ≠ "java/lang/invoke/VarHandle" ∧ (parseMethodDescriptor (yX12_readsFree).desc).map (fun d => d.parameters.length) = some 0 := (by decide +kernel)
theorem cv_X12_200 : CV RX12 200 12 yX12_readsFree cX12_readsFree 1 (some .boolean) 0 := ⟨⟨TX12, cls_X12⟩, tt_of 1453 (by decide +kernel) rfl, mi_X12_readsFree, me_X12_readsFree, mn_X12_readsFree, mc_X12_readsFree, md_X12_readsFree, by decide⟩
theorem mc_X12_readsNumber : Cond.code yX12_readsNumber cX12_readsNumber 5 (some .boolean) ∈ TT := tt_of 1460 (by decide +kernel) rfl
theorem mn_X12_readsNumber : Cond.initialized (yX12_readsNumber).cls ∈ TT := tt_of 163 (by decide +kernel) rfl
theorem mi_X12_readsNumber : Cond.instanceMethod yX12_readsNumber ∈ TT := tt_of 1459 (by decide +kernel) rfl
theorem me_X12_readsNumber : Cond.selects (yX12_readsNumber).cls yX12_readsNumber yX12_readsNumber ∈ TT := tt_of 58 (by decide +kernel) rfl
theorem md_X12_readsNumber : (yX12_readsNumber).cls ≠ "java/lang/invoke/MethodHandle" ∧ (yX12_readsNumber).cls ≠ "java/lang/invoke/VarHandle" ∧ (parseMethodDescriptor (yX12_readsNumber).desc).map (fun d => d.parameters.length) = some 2 := (by decide +kernel)
theorem cv_X12_173 : CV RX12 173 12 yX12_readsNumber cX12_readsNumber 5 (some .boolean) 2 := ⟨⟨TX12, cls_X12⟩, tt_of 1457 (by decide +kernel) rfl, mi_X12_readsNumber, me_X12_readsNumber, mn_X12_readsNumber, mc_X12_readsNumber, md_X12_readsNumber, by decide⟩
theorem mc_X12_fails : Cond.code yX12_fails cX12_fails 3 (some .boolean) ∈ TT := tt_of 1466 (by decide +kernel) rfl
theorem mn_X12_fails : Cond.initialized (yX12_fails).cls ∈ TT := tt_of 163 (by decide +kernel) rfl
theorem mi_X12_fails : Cond.instanceMethod yX12_fails ∈ TT := tt_of 1465 (by decide +kernel) rfl
theorem me_X12_fails : Cond.selects (yX12_fails).cls yX12_fails yX12_fails ∈ TT := tt_of 59 (by decide +kernel) rfl
theorem md_X12_fails : (yX12_fails).cls ≠ "java/lang/invoke/MethodHandle" ∧ (yX12_fails).cls ≠ "java/lang/invoke/VarHandle" ∧ (parseMethodDescriptor (yX12_fails).desc).map (fun d => d.parameters.length) = some 2 := (by decide +kernel)
theorem cv_X12_164 : CV RX12 164 12 yX12_fails cX12_fails 3 (some .boolean) 2 := ⟨⟨TX12, cls_X12⟩, tt_of 1463 (by decide +kernel) rfl, mi_X12_fails, me_X12_fails, mn_X12_fails, mc_X12_fails, md_X12_fails, by decide⟩
theorem mc_X12_alone : Cond.code yX12_alone cX12_alone 3 none ∈ TT := tt_of 1470 (by decide +kernel) rfl
theorem mn_X12_alone : Cond.initialized (yX12_alone).cls ∈ TT := tt_of 163 (by decide +kernel) rfl
theorem mi_X12_alone : Cond.instanceMethod yX12_alone ∈ TT := tt_of 1469 (by decide +kernel) rfl
theorem me_X12_alone : Cond.selects (yX12_alone).cls yX12_alone yX12_alone ∈ TT := tt_of 60 (by decide +kernel) rfl
theorem md_X12_alone : (yX12_alone).cls ≠ "java/lang/invoke/MethodHandle" ∧ (yX12_alone).cls ≠ "java/lang/invoke/VarHandle" ∧ (parseMethodDescriptor (yX12_alone).desc).map (fun d => d.parameters.length) = some 1 := (by decide +kernel)
theorem cv_X12_176 : CV RX12 176 12 yX12_alone cX12_alone 3 none 1 := ⟨⟨TX12, cls_X12⟩, tt_of 1467 (by decide +kernel) rfl, mi_X12_alone, me_X12_alone, mn_X12_alone, mc_X12_alone, md_X12_alone, by decide⟩
theorem mc_X12_readsChain : Cond.code yX12_readsChain cX12_readsChain 3 (some .boolean) ∈ TT := tt_of 1475 (by decide +kernel) rfl
theorem mn_X12_readsChain : Cond.initialized (yX12_readsChain).cls ∈ TT := tt_of 163 (by decide +kernel) rfl
theorem mi_X12_readsChain : Cond.instanceMethod yX12_readsChain ∈ TT := tt_of 1474 (by decide +kernel) rfl
theorem me_X12_readsChain : Cond.selects (yX12_readsChain).cls yX12_readsChain yX12_readsChain ∈ TT := tt_of 61 (by decide +kernel) rfl
theorem md_X12_readsChain : (yX12_readsChain).cls ≠ "java/lang/invoke/MethodHandle" ∧ (yX12_readsChain).cls ≠ "java/lang/invoke/VarHandle" ∧ (parseMethodDescriptor (yX12_readsChain).desc).map (fun d => d.parameters.length) = some 0 := (by decide +kernel)
theorem cv_X12_206 : CV RX12 206 12 yX12_readsChain cX12_readsChain 3 (some .boolean) 0 := ⟨⟨TX12, cls_X12⟩, tt_of 1472 (by decide +kernel) rfl, mi_X12_readsChain, me_X12_readsChain, mn_X12_readsChain, mc_X12_readsChain, md_X12_readsChain, by decide⟩
theorem mc_X12_readsCube : Cond.code yX12_readsCube cX12_readsCube 3 (some .boolean) ∈ TT := tt_of 1480 (by decide +kernel) rfl
theorem mn_X12_readsCube : Cond.initialized (yX12_readsCube).cls ∈ TT := tt_of 163 (by decide +kernel) rfl
theorem mi_X12_readsCube : Cond.instanceMethod yX12_readsCube ∈ TT := tt_of 1479 (by decide +kernel) rfl
theorem me_X12_readsCube : Cond.selects (yX12_readsCube).cls yX12_readsCube yX12_readsCube ∈ TT := tt_of 62 (by decide +kernel) rfl
theorem md_X12_readsCube : (yX12_readsCube).cls ≠ "java/lang/invoke/MethodHandle" ∧ (yX12_readsCube).cls ≠ "java/lang/invoke/VarHandle" ∧ (parseMethodDescriptor (yX12_readsCube).desc).map (fun d => d.parameters.length) = some 0 := (by decide +kernel)
theorem cv_X12_211 : CV RX12 211 12 yX12_readsCube cX12_readsCube 3 (some .boolean) 0 := ⟨⟨TX12, cls_X12⟩, tt_of 1477 (by decide +kernel) rfl, mi_X12_readsCube, me_X12_readsCube, mn_X12_readsCube, mc_X12_readsCube, md_X12_readsCube, by decide⟩
theorem mc_X12_readsDivisors : Cond.code yX12_readsDivisors cX12_readsDivisors 4 (some .boolean) ∈ TT := tt_of 1485 (by decide +kernel) rfl
theorem mn_X12_readsDivisors : Cond.initialized (yX12_readsDivisors).cls ∈ TT := tt_of 163 (by decide +kernel) rfl
theorem mi_X12_readsDivisors : Cond.instanceMethod yX12_readsDivisors ∈ TT := tt_of 1484 (by decide +kernel) rfl
theorem me_X12_readsDivisors : Cond.selects (yX12_readsDivisors).cls yX12_readsDivisors yX12_readsDivisors ∈ TT := tt_of 63 (by decide +kernel) rfl
theorem md_X12_readsDivisors : (yX12_readsDivisors).cls ≠ "java/lang/invoke/MethodHandle" ∧ (yX12_readsDivisors).cls ≠ "java/lang/invoke/VarHandle" ∧ (parseMethodDescriptor (yX12_readsDivisors).desc).map (fun d => d.parameters.length) = some 0 := (by decide +kernel)
theorem cv_X12_216 : CV RX12 216 12 yX12_readsDivisors cX12_readsDivisors 4 (some .boolean) 0 := ⟨⟨TX12, cls_X12⟩, tt_of 1482 (by decide +kernel) rfl, mi_X12_readsDivisors, me_X12_readsDivisors, mn_X12_readsDivisors, mc_X12_readsDivisors, md_X12_readsDivisors, by decide⟩
theorem mc_X12_readsParts : Cond.code yX12_readsParts cX12_readsParts 4 (some .boolean) ∈ TT := tt_of 1490 (by decide +kernel) rfl
theorem mn_X12_readsParts : Cond.initialized (yX12_readsParts).cls ∈ TT := tt_of 163 (by decide +kernel) rfl
theorem mi_X12_readsParts : Cond.instanceMethod yX12_readsParts ∈ TT := tt_of 1489 (by decide +kernel) rfl
theorem me_X12_readsParts : Cond.selects (yX12_readsParts).cls yX12_readsParts yX12_readsParts ∈ TT := tt_of 64 (by decide +kernel) rfl
theorem md_X12_readsParts : (yX12_readsParts).cls ≠ "java/lang/invoke/MethodHandle" ∧ (yX12_readsParts).cls ≠ "java/lang/invoke/VarHandle" ∧ (parseMethodDescriptor (yX12_readsParts).desc).map (fun d => d.parameters.length) = some 0 := (by decide +kernel)
theorem cv_X12_221 : CV RX12 221 12 yX12_readsParts cX12_readsParts 4 (some .boolean) 0 := ⟨⟨TX12, cls_X12⟩, tt_of 1487 (by decide +kernel) rfl, mi_X12_readsParts, me_X12_readsParts, mn_X12_readsParts, mc_X12_readsParts, md_X12_readsParts, by decide⟩
theorem mc_X12_isRow : Cond.code yX12_isRow cX12_isRow 4 (some .boolean) ∈ TT := tt_of 1493 (by decide +kernel) rfl
theorem mn_X12_isRow : Cond.initialized (yX12_isRow).cls ∈ TT := tt_of 163 (by decide +kernel) rfl
theorem ms_X12_isRow : Cond.static yX12_isRow ∈ TT := tt_of 1492 (by decide +kernel) rfl
theorem md_X12_isRow : (yX12_isRow).cls ≠ "java/lang/invoke/MethodHandle" ∧ (yX12_isRow).cls ≠ "java/lang/invoke/VarHandle" ∧ (parseMethodDescriptor (yX12_isRow).desc).map (fun d => d.parameters.length) = some 2 := (by decide +kernel)
theorem ct_X12_183 : CT RX12 183 yX12_isRow cX12_isRow 4 (some .boolean) 2 := ⟨tt_of 1491 (by decide +kernel) rfl, ms_X12_isRow, mn_X12_isRow, mc_X12_isRow, md_X12_isRow, by decide⟩
theorem mc_X12_partOf : Cond.code yX12_partOf cX12_partOf 2 (some .int) ∈ TT := tt_of 1496 (by decide +kernel) rfl
theorem mn_X12_partOf : Cond.initialized (yX12_partOf).cls ∈ TT := tt_of 163 (by decide +kernel) rfl
theorem ms_X12_partOf : Cond.static yX12_partOf ∈ TT := tt_of 1495 (by decide +kernel) rfl
theorem md_X12_partOf : (yX12_partOf).cls ≠ "java/lang/invoke/MethodHandle" ∧ (yX12_partOf).cls ≠ "java/lang/invoke/VarHandle" ∧ (parseMethodDescriptor (yX12_partOf).desc).map (fun d => d.parameters.length) = some 2 := (by decide +kernel)
theorem ct_X12_180 : CT RX12 180 yX12_partOf cX12_partOf 2 (some .int) 2 := ⟨tt_of 1494 (by decide +kernel) rfl, ms_X12_partOf, mn_X12_partOf, mc_X12_partOf, md_X12_partOf, by decide⟩
theorem mc_X12_isFiner : Cond.code yX12_isFiner cX12_isFiner 5 (some .boolean) ∈ TT := tt_of 1499 (by decide +kernel) rfl
theorem mn_X12_isFiner : Cond.initialized (yX12_isFiner).cls ∈ TT := tt_of 163 (by decide +kernel) rfl
theorem ms_X12_isFiner : Cond.static yX12_isFiner ∈ TT := tt_of 1498 (by decide +kernel) rfl
theorem md_X12_isFiner : (yX12_isFiner).cls ≠ "java/lang/invoke/MethodHandle" ∧ (yX12_isFiner).cls ≠ "java/lang/invoke/VarHandle" ∧ (parseMethodDescriptor (yX12_isFiner).desc).map (fun d => d.parameters.length) = some 3 := (by decide +kernel)
theorem ct_X12_186 : CT RX12 186 yX12_isFiner cX12_isFiner 5 (some .boolean) 3 := ⟨tt_of 1497 (by decide +kernel) rfl, ms_X12_isFiner, mn_X12_isFiner, mc_X12_isFiner, md_X12_isFiner, by decide⟩
theorem mc_X12_readsLine : Cond.code yX12_readsLine cX12_readsLine 3 (some .boolean) ∈ TT := tt_of 1503 (by decide +kernel) rfl
theorem mn_X12_readsLine : Cond.initialized (yX12_readsLine).cls ∈ TT := tt_of 163 (by decide +kernel) rfl
theorem mi_X12_readsLine : Cond.instanceMethod yX12_readsLine ∈ TT := tt_of 1502 (by decide +kernel) rfl
theorem me_X12_readsLine : Cond.selects (yX12_readsLine).cls yX12_readsLine yX12_readsLine ∈ TT := tt_of 65 (by decide +kernel) rfl
theorem md_X12_readsLine : (yX12_readsLine).cls ≠ "java/lang/invoke/MethodHandle" ∧ (yX12_readsLine).cls ≠ "java/lang/invoke/VarHandle" ∧ (parseMethodDescriptor (yX12_readsLine).desc).map (fun d => d.parameters.length) = some 0 := (by decide +kernel)
theorem cv_X12_227 : CV RX12 227 12 yX12_readsLine cX12_readsLine 3 (some .boolean) 0 := ⟨⟨TX12, cls_X12⟩, tt_of 1500 (by decide +kernel) rfl, mi_X12_readsLine, me_X12_readsLine, mn_X12_readsLine, mc_X12_readsLine, md_X12_readsLine, by decide⟩
theorem mc_X12_has : Cond.code yX12_has cX12_has 2 (some .boolean) ∈ TT := tt_of 1506 (by decide +kernel) rfl
theorem mn_X12_has : Cond.initialized (yX12_has).cls ∈ TT := tt_of 163 (by decide +kernel) rfl
theorem ms_X12_has : Cond.static yX12_has ∈ TT := tt_of 1505 (by decide +kernel) rfl
theorem md_X12_has : (yX12_has).cls ≠ "java/lang/invoke/MethodHandle" ∧ (yX12_has).cls ≠ "java/lang/invoke/VarHandle" ∧ (parseMethodDescriptor (yX12_has).desc).map (fun d => d.parameters.length) = some 2 := (by decide +kernel)
theorem ct_X12_90 : CT RX12 90 yX12_has cX12_has 2 (some .boolean) 2 := ⟨tt_of 1504 (by decide +kernel) rfl, ms_X12_has, mn_X12_has, mc_X12_has, md_X12_has, by decide⟩
theorem mc_X12_joins : Cond.code yX12_joins cX12_joins 5 none ∈ TT := tt_of 1509 (by decide +kernel) rfl
theorem mn_X12_joins : Cond.initialized (yX12_joins).cls ∈ TT := tt_of 163 (by decide +kernel) rfl
theorem ms_X12_joins : Cond.static yX12_joins ∈ TT := tt_of 1508 (by decide +kernel) rfl
theorem md_X12_joins : (yX12_joins).cls ≠ "java/lang/invoke/MethodHandle" ∧ (yX12_joins).cls ≠ "java/lang/invoke/VarHandle" ∧ (parseMethodDescriptor (yX12_joins).desc).map (fun d => d.parameters.length) = some 4 := (by decide +kernel)
theorem ct_X12_190 : CT RX12 190 yX12_joins cX12_joins 5 none 4 := ⟨tt_of 1507 (by decide +kernel) rfl, ms_X12_joins, mn_X12_joins, mc_X12_joins, md_X12_joins, by decide⟩
theorem mc_X12_keepsAct : Cond.code yX12_keepsAct cX12_keepsAct 2 none ∈ TT := tt_of 1513 (by decide +kernel) rfl
theorem mn_X12_keepsAct : Cond.initialized (yX12_keepsAct).cls ∈ TT := tt_of 163 (by decide +kernel) rfl
theorem mi_X12_keepsAct : Cond.instanceMethod yX12_keepsAct ∈ TT := tt_of 1512 (by decide +kernel) rfl
theorem me_X12_keepsAct : Cond.selects (yX12_keepsAct).cls yX12_keepsAct yX12_keepsAct ∈ TT := tt_of 66 (by decide +kernel) rfl
theorem md_X12_keepsAct : (yX12_keepsAct).cls ≠ "java/lang/invoke/MethodHandle" ∧ (yX12_keepsAct).cls ≠ "java/lang/invoke/VarHandle" ∧ (parseMethodDescriptor (yX12_keepsAct).desc).map (fun d => d.parameters.length) = some 0 := (by decide +kernel)
theorem cv_X12_233 : CV RX12 233 12 yX12_keepsAct cX12_keepsAct 2 none 0 := ⟨⟨TX12, cls_X12⟩, tt_of 1510 (by decide +kernel) rfl, mi_X12_keepsAct, me_X12_keepsAct, mn_X12_keepsAct, mc_X12_keepsAct, md_X12_keepsAct, by decide⟩
theorem mc_X12_takesTold : Cond.code yX12_takesTold cX12_takesTold 2 none ∈ TT := tt_of 1517 (by decide +kernel) rfl
theorem mn_X12_takesTold : Cond.initialized (yX12_takesTold).cls ∈ TT := tt_of 163 (by decide +kernel) rfl
theorem mi_X12_takesTold : Cond.instanceMethod yX12_takesTold ∈ TT := tt_of 1516 (by decide +kernel) rfl
theorem me_X12_takesTold : Cond.selects (yX12_takesTold).cls yX12_takesTold yX12_takesTold ∈ TT := tt_of 67 (by decide +kernel) rfl
theorem md_X12_takesTold : (yX12_takesTold).cls ≠ "java/lang/invoke/MethodHandle" ∧ (yX12_takesTold).cls ≠ "java/lang/invoke/VarHandle" ∧ (parseMethodDescriptor (yX12_takesTold).desc).map (fun d => d.parameters.length) = some 0 := (by decide +kernel)
theorem cv_X12_236 : CV RX12 236 12 yX12_takesTold cX12_takesTold 2 none 0 := ⟨⟨TX12, cls_X12⟩, tt_of 1514 (by decide +kernel) rfl, mi_X12_takesTold, me_X12_takesTold, mn_X12_takesTold, mc_X12_takesTold, md_X12_takesTold, by decide⟩
theorem mc_X12_relate : Cond.code yX12_relate cX12_relate 4 (some .int) ∈ TT := tt_of 1521 (by decide +kernel) rfl
theorem mn_X12_relate : Cond.initialized (yX12_relate).cls ∈ TT := tt_of 163 (by decide +kernel) rfl
theorem mi_X12_relate : Cond.instanceMethod yX12_relate ∈ TT := tt_of 1519 (by decide +kernel) rfl
theorem me_X12_relate : Cond.selects (yX12_relate).cls yX12_relate yX12_relate ∈ TT := tt_of 1520 (by decide +kernel) rfl
theorem md_X12_relate : (yX12_relate).cls ≠ "java/lang/invoke/MethodHandle" ∧ (yX12_relate).cls ≠ "java/lang/invoke/VarHandle" ∧ (parseMethodDescriptor (yX12_relate).desc).map (fun d => d.parameters.length) = some 2 := (by decide +kernel)
theorem cv_L_32 : CV RL 32 12 yX12_relate cX12_relate 4 (some .int) 2 := ⟨⟨TX12, cls_X12⟩, tt_of 1518 (by decide +kernel) rfl, mi_X12_relate, me_X12_relate, mn_X12_relate, mc_X12_relate, md_X12_relate, by decide⟩
theorem mc_X12_isElement : Cond.code yX12_isElement cX12_isElement 2 (some .boolean) ∈ TT := tt_of 1525 (by decide +kernel) rfl
theorem mn_X12_isElement : Cond.initialized (yX12_isElement).cls ∈ TT := tt_of 163 (by decide +kernel) rfl
theorem mi_X12_isElement : Cond.instanceMethod yX12_isElement ∈ TT := tt_of 1524 (by decide +kernel) rfl
theorem me_X12_isElement : Cond.selects (yX12_isElement).cls yX12_isElement yX12_isElement ∈ TT := tt_of 68 (by decide +kernel) rfl
theorem md_X12_isElement : (yX12_isElement).cls ≠ "java/lang/invoke/MethodHandle" ∧ (yX12_isElement).cls ≠ "java/lang/invoke/VarHandle" ∧ (parseMethodDescriptor (yX12_isElement).desc).map (fun d => d.parameters.length) = some 1 := (by decide +kernel)
theorem cv_X12_100 : CV RX12 100 12 yX12_isElement cX12_isElement 2 (some .boolean) 1 := ⟨⟨TX12, cls_X12⟩, tt_of 1522 (by decide +kernel) rfl, mi_X12_isElement, me_X12_isElement, mn_X12_isElement, mc_X12_isElement, md_X12_isElement, by decide⟩
theorem mc_X12_isBelow : Cond.code yX12_isBelow cX12_isBelow 3 (some .boolean) ∈ TT := tt_of 1529 (by decide +kernel) rfl
theorem mn_X12_isBelow : Cond.initialized (yX12_isBelow).cls ∈ TT := tt_of 163 (by decide +kernel) rfl
theorem mi_X12_isBelow : Cond.instanceMethod yX12_isBelow ∈ TT := tt_of 1528 (by decide +kernel) rfl
theorem me_X12_isBelow : Cond.selects (yX12_isBelow).cls yX12_isBelow yX12_isBelow ∈ TT := tt_of 69 (by decide +kernel) rfl
theorem md_X12_isBelow : (yX12_isBelow).cls ≠ "java/lang/invoke/MethodHandle" ∧ (yX12_isBelow).cls ≠ "java/lang/invoke/VarHandle" ∧ (parseMethodDescriptor (yX12_isBelow).desc).map (fun d => d.parameters.length) = some 2 := (by decide +kernel)
theorem cv_X12_104 : CV RX12 104 12 yX12_isBelow cX12_isBelow 3 (some .boolean) 2 := ⟨⟨TX12, cls_X12⟩, tt_of 1526 (by decide +kernel) rfl, mi_X12_isBelow, me_X12_isBelow, mn_X12_isBelow, mc_X12_isBelow, md_X12_isBelow, by decide⟩
theorem mc_X12_isAtMost : Cond.code yX12_isAtMost cX12_isAtMost 3 (some .boolean) ∈ TT := tt_of 1533 (by decide +kernel) rfl
theorem mn_X12_isAtMost : Cond.initialized (yX12_isAtMost).cls ∈ TT := tt_of 163 (by decide +kernel) rfl
theorem mi_X12_isAtMost : Cond.instanceMethod yX12_isAtMost ∈ TT := tt_of 1532 (by decide +kernel) rfl
theorem me_X12_isAtMost : Cond.selects (yX12_isAtMost).cls yX12_isAtMost yX12_isAtMost ∈ TT := tt_of 70 (by decide +kernel) rfl
theorem md_X12_isAtMost : (yX12_isAtMost).cls ≠ "java/lang/invoke/MethodHandle" ∧ (yX12_isAtMost).cls ≠ "java/lang/invoke/VarHandle" ∧ (parseMethodDescriptor (yX12_isAtMost).desc).map (fun d => d.parameters.length) = some 2 := (by decide +kernel)
theorem cv_X12_94 : CV RX12 94 12 yX12_isAtMost cX12_isAtMost 3 (some .boolean) 2 := ⟨⟨TX12, cls_X12⟩, tt_of 1530 (by decide +kernel) rfl, mi_X12_isAtMost, me_X12_isAtMost, mn_X12_isAtMost, mc_X12_isAtMost, md_X12_isAtMost, by decide⟩
theorem mc_X12_covers : Cond.code yX12_covers cX12_covers 4 (some .int) ∈ TT := tt_of 1537 (by decide +kernel) rfl
theorem mn_X12_covers : Cond.initialized (yX12_covers).cls ∈ TT := tt_of 163 (by decide +kernel) rfl
theorem mi_X12_covers : Cond.instanceMethod yX12_covers ∈ TT := tt_of 1536 (by decide +kernel) rfl
theorem me_X12_covers : Cond.selects (yX12_covers).cls yX12_covers yX12_covers ∈ TT := tt_of 71 (by decide +kernel) rfl
theorem md_X12_covers : (yX12_covers).cls ≠ "java/lang/invoke/MethodHandle" ∧ (yX12_covers).cls ≠ "java/lang/invoke/VarHandle" ∧ (parseMethodDescriptor (yX12_covers).desc).map (fun d => d.parameters.length) = some 0 := (by decide +kernel)
theorem cv_X12_242 : CV RX12 242 12 yX12_covers cX12_covers 4 (some .int) 0 := ⟨⟨TX12, cls_X12⟩, tt_of 1534 (by decide +kernel) rfl, mi_X12_covers, me_X12_covers, mn_X12_covers, mc_X12_covers, md_X12_covers, by decide⟩
theorem mc_X12_isCover : Cond.code yX12_isCover cX12_isCover 3 (some .boolean) ∈ TT := tt_of 1541 (by decide +kernel) rfl
theorem mn_X12_isCover : Cond.initialized (yX12_isCover).cls ∈ TT := tt_of 163 (by decide +kernel) rfl
theorem mi_X12_isCover : Cond.instanceMethod yX12_isCover ∈ TT := tt_of 1540 (by decide +kernel) rfl
theorem me_X12_isCover : Cond.selects (yX12_isCover).cls yX12_isCover yX12_isCover ∈ TT := tt_of 72 (by decide +kernel) rfl
theorem md_X12_isCover : (yX12_isCover).cls ≠ "java/lang/invoke/MethodHandle" ∧ (yX12_isCover).cls ≠ "java/lang/invoke/VarHandle" ∧ (parseMethodDescriptor (yX12_isCover).desc).map (fun d => d.parameters.length) = some 2 := (by decide +kernel)
theorem cv_X12_239 : CV RX12 239 12 yX12_isCover cX12_isCover 3 (some .boolean) 2 := ⟨⟨TX12, cls_X12⟩, tt_of 1538 (by decide +kernel) rfl, mi_X12_isCover, me_X12_isCover, mn_X12_isCover, mc_X12_isCover, md_X12_isCover, by decide⟩
theorem mc_X12_interval : Cond.code yX12_interval cX12_interval 3 (some .int) ∈ TT := tt_of 1545 (by decide +kernel) rfl
theorem mn_X12_interval : Cond.initialized (yX12_interval).cls ∈ TT := tt_of 163 (by decide +kernel) rfl
theorem mi_X12_interval : Cond.instanceMethod yX12_interval ∈ TT := tt_of 1544 (by decide +kernel) rfl
theorem me_X12_interval : Cond.selects (yX12_interval).cls yX12_interval yX12_interval ∈ TT := tt_of 73 (by decide +kernel) rfl
theorem md_X12_interval : (yX12_interval).cls ≠ "java/lang/invoke/MethodHandle" ∧ (yX12_interval).cls ≠ "java/lang/invoke/VarHandle" ∧ (parseMethodDescriptor (yX12_interval).desc).map (fun d => d.parameters.length) = some 2 := (by decide +kernel)
theorem cv_X12_107 : CV RX12 107 12 yX12_interval cX12_interval 3 (some .int) 2 := ⟨⟨TX12, cls_X12⟩, tt_of 1542 (by decide +kernel) rfl, mi_X12_interval, me_X12_interval, mn_X12_interval, mc_X12_interval, md_X12_interval, by decide⟩
theorem mc_X12_down : Cond.code yX12_down cX12_down 4 (some .int) ∈ TT := tt_of 1549 (by decide +kernel) rfl
theorem mn_X12_down : Cond.initialized (yX12_down).cls ∈ TT := tt_of 163 (by decide +kernel) rfl
theorem mi_X12_down : Cond.instanceMethod yX12_down ∈ TT := tt_of 1548 (by decide +kernel) rfl
theorem me_X12_down : Cond.selects (yX12_down).cls yX12_down yX12_down ∈ TT := tt_of 74 (by decide +kernel) rfl
theorem md_X12_down : (yX12_down).cls ≠ "java/lang/invoke/MethodHandle" ∧ (yX12_down).cls ≠ "java/lang/invoke/VarHandle" ∧ (parseMethodDescriptor (yX12_down).desc).map (fun d => d.parameters.length) = some 1 := (by decide +kernel)
theorem cv_X12_97 : CV RX12 97 12 yX12_down cX12_down 4 (some .int) 1 := ⟨⟨TX12, cls_X12⟩, tt_of 1546 (by decide +kernel) rfl, mi_X12_down, me_X12_down, mn_X12_down, mc_X12_down, md_X12_down, by decide⟩
theorem mc_X12_size : Cond.code yX12_size cX12_size 3 (some .int) ∈ TT := tt_of 1552 (by decide +kernel) rfl
theorem mn_X12_size : Cond.initialized (yX12_size).cls ∈ TT := tt_of 163 (by decide +kernel) rfl
theorem ms_X12_size : Cond.static yX12_size ∈ TT := tt_of 1551 (by decide +kernel) rfl
theorem md_X12_size : (yX12_size).cls ≠ "java/lang/invoke/MethodHandle" ∧ (yX12_size).cls ≠ "java/lang/invoke/VarHandle" ∧ (parseMethodDescriptor (yX12_size).desc).map (fun d => d.parameters.length) = some 1 := (by decide +kernel)
theorem ct_X12_111 : CT RX12 111 yX12_size cX12_size 3 (some .int) 1 := ⟨tt_of 1550 (by decide +kernel) rfl, ms_X12_size, mn_X12_size, mc_X12_size, md_X12_size, by decide⟩
theorem mc_X12_form : Cond.code yX12_form cX12_form 4 (some .int) ∈ TT := tt_of 1556 (by decide +kernel) rfl
theorem mn_X12_form : Cond.initialized (yX12_form).cls ∈ TT := tt_of 163 (by decide +kernel) rfl
theorem mi_X12_form : Cond.instanceMethod yX12_form ∈ TT := tt_of 1554 (by decide +kernel) rfl
theorem me_X12_form : Cond.selects (yX12_form).cls yX12_form yX12_form ∈ TT := tt_of 1555 (by decide +kernel) rfl
theorem md_X12_form : (yX12_form).cls ≠ "java/lang/invoke/MethodHandle" ∧ (yX12_form).cls ≠ "java/lang/invoke/VarHandle" ∧ (parseMethodDescriptor (yX12_form).desc).map (fun d => d.parameters.length) = some 3 := (by decide +kernel)
theorem cv_L_37 : CV RL 37 12 yX12_form cX12_form 4 (some .int) 3 := ⟨⟨TX12, cls_X12⟩, tt_of 1553 (by decide +kernel) rfl, mi_X12_form, me_X12_form, mn_X12_form, mc_X12_form, md_X12_form, by decide⟩
theorem mc_X12_isInterval : Cond.code yX12_isInterval cX12_isInterval 3 (some .boolean) ∈ TT := tt_of 1561 (by decide +kernel) rfl
theorem mn_X12_isInterval : Cond.initialized (yX12_isInterval).cls ∈ TT := tt_of 163 (by decide +kernel) rfl
theorem mi_X12_isInterval : Cond.instanceMethod yX12_isInterval ∈ TT := tt_of 1560 (by decide +kernel) rfl
theorem me_X12_isInterval : Cond.selects (yX12_isInterval).cls yX12_isInterval yX12_isInterval ∈ TT := tt_of 75 (by decide +kernel) rfl
theorem md_X12_isInterval : (yX12_isInterval).cls ≠ "java/lang/invoke/MethodHandle" ∧ (yX12_isInterval).cls ≠ "java/lang/invoke/VarHandle" ∧ (parseMethodDescriptor (yX12_isInterval).desc).map (fun d => d.parameters.length) = some 2 := (by decide +kernel)
theorem cv_X12_247 : CV RX12 247 12 yX12_isInterval cX12_isInterval 3 (some .boolean) 2 := ⟨⟨TX12, cls_X12⟩, tt_of 1558 (by decide +kernel) rfl, mi_X12_isInterval, me_X12_isInterval, mn_X12_isInterval, mc_X12_isInterval, md_X12_isInterval, by decide⟩
theorem mc_X12_isKept : Cond.code yX12_isKept cX12_isKept 2 (some .boolean) ∈ TT := tt_of 1565 (by decide +kernel) rfl
theorem mn_X12_isKept : Cond.initialized (yX12_isKept).cls ∈ TT := tt_of 163 (by decide +kernel) rfl
theorem mi_X12_isKept : Cond.instanceMethod yX12_isKept ∈ TT := tt_of 1564 (by decide +kernel) rfl
theorem me_X12_isKept : Cond.selects (yX12_isKept).cls yX12_isKept yX12_isKept ∈ TT := tt_of 76 (by decide +kernel) rfl
theorem md_X12_isKept : (yX12_isKept).cls ≠ "java/lang/invoke/MethodHandle" ∧ (yX12_isKept).cls ≠ "java/lang/invoke/VarHandle" ∧ (parseMethodDescriptor (yX12_isKept).desc).map (fun d => d.parameters.length) = some 1 := (by decide +kernel)
theorem cv_X12_250 : CV RX12 250 12 yX12_isKept cX12_isKept 2 (some .boolean) 1 := ⟨⟨TX12, cls_X12⟩, tt_of 1562 (by decide +kernel) rfl, mi_X12_isKept, me_X12_isKept, mn_X12_isKept, mc_X12_isKept, md_X12_isKept, by decide⟩
theorem mc_X12_sizeFormed : Cond.code yX12_sizeFormed cX12_sizeFormed 3 (some .int) ∈ TT := tt_of 1569 (by decide +kernel) rfl
theorem mn_X12_sizeFormed : Cond.initialized (yX12_sizeFormed).cls ∈ TT := tt_of 163 (by decide +kernel) rfl
theorem mi_X12_sizeFormed : Cond.instanceMethod yX12_sizeFormed ∈ TT := tt_of 1568 (by decide +kernel) rfl
theorem me_X12_sizeFormed : Cond.selects (yX12_sizeFormed).cls yX12_sizeFormed yX12_sizeFormed ∈ TT := tt_of 77 (by decide +kernel) rfl
theorem md_X12_sizeFormed : (yX12_sizeFormed).cls ≠ "java/lang/invoke/MethodHandle" ∧ (yX12_sizeFormed).cls ≠ "java/lang/invoke/VarHandle" ∧ (parseMethodDescriptor (yX12_sizeFormed).desc).map (fun d => d.parameters.length) = some 2 := (by decide +kernel)
theorem cv_X12_253 : CV RX12 253 12 yX12_sizeFormed cX12_sizeFormed 3 (some .int) 2 := ⟨⟨TX12, cls_X12⟩, tt_of 1566 (by decide +kernel) rfl, mi_X12_sizeFormed, me_X12_sizeFormed, mn_X12_sizeFormed, mc_X12_sizeFormed, md_X12_sizeFormed, by decide⟩
theorem mc_X12_turned : Cond.code yX12_turned cX12_turned 2 none ∈ TT := tt_of 1573 (by decide +kernel) rfl
theorem mn_X12_turned : Cond.initialized (yX12_turned).cls ∈ TT := tt_of 163 (by decide +kernel) rfl
theorem mi_X12_turned : Cond.instanceMethod yX12_turned ∈ TT := tt_of 1572 (by decide +kernel) rfl
theorem me_X12_turned : Cond.selects (yX12_turned).cls yX12_turned yX12_turned ∈ TT := tt_of 78 (by decide +kernel) rfl
theorem md_X12_turned : (yX12_turned).cls ≠ "java/lang/invoke/MethodHandle" ∧ (yX12_turned).cls ≠ "java/lang/invoke/VarHandle" ∧ (parseMethodDescriptor (yX12_turned).desc).map (fun d => d.parameters.length) = some 0 := (by decide +kernel)
theorem cv_X12_256 : CV RX12 256 12 yX12_turned cX12_turned 2 none 0 := ⟨⟨TX12, cls_X12⟩, tt_of 1570 (by decide +kernel) rfl, mi_X12_turned, me_X12_turned, mn_X12_turned, mc_X12_turned, md_X12_turned, by decide⟩
theorem mc_X12_within : Cond.code yX12_within cX12_within 5 none ∈ TT := tt_of 1577 (by decide +kernel) rfl
theorem mn_X12_within : Cond.initialized (yX12_within).cls ∈ TT := tt_of 163 (by decide +kernel) rfl
theorem mi_X12_within : Cond.instanceMethod yX12_within ∈ TT := tt_of 1576 (by decide +kernel) rfl
theorem me_X12_within : Cond.selects (yX12_within).cls yX12_within yX12_within ∈ TT := tt_of 79 (by decide +kernel) rfl
theorem md_X12_within : (yX12_within).cls ≠ "java/lang/invoke/MethodHandle" ∧ (yX12_within).cls ≠ "java/lang/invoke/VarHandle" ∧ (parseMethodDescriptor (yX12_within).desc).map (fun d => d.parameters.length) = some 1 := (by decide +kernel)
theorem cv_X12_259 : CV RX12 259 12 yX12_within cX12_within 5 none 1 := ⟨⟨TX12, cls_X12⟩, tt_of 1574 (by decide +kernel) rfl, mi_X12_within, me_X12_within, mn_X12_within, mc_X12_within, md_X12_within, by decide⟩
theorem mc_X12_beside : Cond.code yX12_beside cX12_beside 5 none ∈ TT := tt_of 1581 (by decide +kernel) rfl
theorem mn_X12_beside : Cond.initialized (yX12_beside).cls ∈ TT := tt_of 163 (by decide +kernel) rfl
theorem mi_X12_beside : Cond.instanceMethod yX12_beside ∈ TT := tt_of 1580 (by decide +kernel) rfl
theorem me_X12_beside : Cond.selects (yX12_beside).cls yX12_beside yX12_beside ∈ TT := tt_of 80 (by decide +kernel) rfl
theorem md_X12_beside : (yX12_beside).cls ≠ "java/lang/invoke/MethodHandle" ∧ (yX12_beside).cls ≠ "java/lang/invoke/VarHandle" ∧ (parseMethodDescriptor (yX12_beside).desc).map (fun d => d.parameters.length) = some 2 := (by decide +kernel)
theorem cv_X12_262 : CV RX12 262 12 yX12_beside cX12_beside 5 none 2 := ⟨⟨TX12, cls_X12⟩, tt_of 1578 (by decide +kernel) rfl, mi_X12_beside, me_X12_beside, mn_X12_beside, mc_X12_beside, md_X12_beside, by decide⟩
theorem mc_X12_pairs : Cond.code yX12_pairs cX12_pairs 5 none ∈ TT := tt_of 1585 (by decide +kernel) rfl
theorem mn_X12_pairs : Cond.initialized (yX12_pairs).cls ∈ TT := tt_of 163 (by decide +kernel) rfl
theorem mi_X12_pairs : Cond.instanceMethod yX12_pairs ∈ TT := tt_of 1584 (by decide +kernel) rfl
theorem me_X12_pairs : Cond.selects (yX12_pairs).cls yX12_pairs yX12_pairs ∈ TT := tt_of 81 (by decide +kernel) rfl
theorem md_X12_pairs : (yX12_pairs).cls ≠ "java/lang/invoke/MethodHandle" ∧ (yX12_pairs).cls ≠ "java/lang/invoke/VarHandle" ∧ (parseMethodDescriptor (yX12_pairs).desc).map (fun d => d.parameters.length) = some 1 := (by decide +kernel)
theorem cv_X12_266 : CV RX12 266 12 yX12_pairs cX12_pairs 5 none 1 := ⟨⟨TX12, cls_X12⟩, tt_of 1582 (by decide +kernel) rfl, mi_X12_pairs, me_X12_pairs, mn_X12_pairs, mc_X12_pairs, md_X12_pairs, by decide⟩
theorem mc_X12_make : Cond.code yX12_make cX12_make 3 (some .int) ∈ TT := tt_of 1589 (by decide +kernel) rfl
theorem mn_X12_make : Cond.initialized (yX12_make).cls ∈ TT := tt_of 163 (by decide +kernel) rfl
theorem mi_X12_make : Cond.instanceMethod yX12_make ∈ TT := tt_of 1587 (by decide +kernel) rfl
theorem me_X12_make : Cond.selects (yX12_make).cls yX12_make yX12_make ∈ TT := tt_of 1588 (by decide +kernel) rfl
theorem md_X12_make : (yX12_make).cls ≠ "java/lang/invoke/MethodHandle" ∧ (yX12_make).cls ≠ "java/lang/invoke/VarHandle" ∧ (parseMethodDescriptor (yX12_make).desc).map (fun d => d.parameters.length) = some 2 := (by decide +kernel)
theorem cv_L_41 : CV RL 41 12 yX12_make cX12_make 3 (some .int) 2 := ⟨⟨TX12, cls_X12⟩, tt_of 1586 (by decide +kernel) rfl, mi_X12_make, me_X12_make, mn_X12_make, mc_X12_make, md_X12_make, by decide⟩
theorem mc_X12_isFunction : Cond.code yX12_isFunction cX12_isFunction 1 (some .boolean) ∈ TT := tt_of 1592 (by decide +kernel) rfl
theorem mn_X12_isFunction : Cond.initialized (yX12_isFunction).cls ∈ TT := tt_of 163 (by decide +kernel) rfl
theorem ms_X12_isFunction : Cond.static yX12_isFunction ∈ TT := tt_of 1591 (by decide +kernel) rfl
theorem md_X12_isFunction : (yX12_isFunction).cls ≠ "java/lang/invoke/MethodHandle" ∧ (yX12_isFunction).cls ≠ "java/lang/invoke/VarHandle" ∧ (parseMethodDescriptor (yX12_isFunction).desc).map (fun d => d.parameters.length) = some 1 := (by decide +kernel)
theorem ct_X12_290 : CT RX12 290 yX12_isFunction cX12_isFunction 1 (some .boolean) 1 := ⟨tt_of 1590 (by decide +kernel) rfl, ms_X12_isFunction, mn_X12_isFunction, mc_X12_isFunction, md_X12_isFunction, by decide⟩
theorem mc_X12_laysKind : Cond.code yX12_laysKind cX12_laysKind 4 none ∈ TT := tt_of 1598 (by decide +kernel) rfl
theorem mn_X12_laysKind : Cond.initialized (yX12_laysKind).cls ∈ TT := tt_of 163 (by decide +kernel) rfl
theorem mi_X12_laysKind : Cond.instanceMethod yX12_laysKind ∈ TT := tt_of 1597 (by decide +kernel) rfl
theorem me_X12_laysKind : Cond.selects (yX12_laysKind).cls yX12_laysKind yX12_laysKind ∈ TT := tt_of 82 (by decide +kernel) rfl
theorem md_X12_laysKind : (yX12_laysKind).cls ≠ "java/lang/invoke/MethodHandle" ∧ (yX12_laysKind).cls ≠ "java/lang/invoke/VarHandle" ∧ (parseMethodDescriptor (yX12_laysKind).desc).map (fun d => d.parameters.length) = some 1 := (by decide +kernel)
theorem cv_X12_295 : CV RX12 295 12 yX12_laysKind cX12_laysKind 4 none 1 := ⟨⟨TX12, cls_X12⟩, tt_of 1595 (by decide +kernel) rfl, mi_X12_laysKind, me_X12_laysKind, mn_X12_laysKind, mc_X12_laysKind, md_X12_laysKind, by decide⟩
theorem mc_X12_moebiusMade : Cond.code yX12_moebiusMade cX12_moebiusMade 4 none ∈ TT := tt_of 1602 (by decide +kernel) rfl
theorem mn_X12_moebiusMade : Cond.initialized (yX12_moebiusMade).cls ∈ TT := tt_of 163 (by decide +kernel) rfl
theorem mi_X12_moebiusMade : Cond.instanceMethod yX12_moebiusMade ∈ TT := tt_of 1601 (by decide +kernel) rfl
theorem me_X12_moebiusMade : Cond.selects (yX12_moebiusMade).cls yX12_moebiusMade yX12_moebiusMade ∈ TT := tt_of 83 (by decide +kernel) rfl
theorem md_X12_moebiusMade : (yX12_moebiusMade).cls ≠ "java/lang/invoke/MethodHandle" ∧ (yX12_moebiusMade).cls ≠ "java/lang/invoke/VarHandle" ∧ (parseMethodDescriptor (yX12_moebiusMade).desc).map (fun d => d.parameters.length) = some 0 := (by decide +kernel)
theorem cv_X12_283 : CV RX12 283 12 yX12_moebiusMade cX12_moebiusMade 4 none 0 := ⟨⟨TX12, cls_X12⟩, tt_of 1599 (by decide +kernel) rfl, mi_X12_moebiusMade, me_X12_moebiusMade, mn_X12_moebiusMade, mc_X12_moebiusMade, md_X12_moebiusMade, by decide⟩
theorem mc_X12_empties : Cond.code yX12_empties cX12_empties 2 none ∈ TT := tt_of 1606 (by decide +kernel) rfl
theorem mn_X12_empties : Cond.initialized (yX12_empties).cls ∈ TT := tt_of 163 (by decide +kernel) rfl
theorem mi_X12_empties : Cond.instanceMethod yX12_empties ∈ TT := tt_of 1605 (by decide +kernel) rfl
theorem me_X12_empties : Cond.selects (yX12_empties).cls yX12_empties yX12_empties ∈ TT := tt_of 84 (by decide +kernel) rfl
theorem md_X12_empties : (yX12_empties).cls ≠ "java/lang/invoke/MethodHandle" ∧ (yX12_empties).cls ≠ "java/lang/invoke/VarHandle" ∧ (parseMethodDescriptor (yX12_empties).desc).map (fun d => d.parameters.length) = some 0 := (by decide +kernel)
theorem cv_X12_276 : CV RX12 276 12 yX12_empties cX12_empties 2 none 0 := ⟨⟨TX12, cls_X12⟩, tt_of 1603 (by decide +kernel) rfl, mi_X12_empties, me_X12_empties, mn_X12_empties, mc_X12_empties, md_X12_empties, by decide⟩
theorem mc_X12_moebiusFrom : Cond.code yX12_moebiusFrom cX12_moebiusFrom 6 (some .long) ∈ TT := tt_of 1610 (by decide +kernel) rfl
theorem mn_X12_moebiusFrom : Cond.initialized (yX12_moebiusFrom).cls ∈ TT := tt_of 163 (by decide +kernel) rfl
theorem mi_X12_moebiusFrom : Cond.instanceMethod yX12_moebiusFrom ∈ TT := tt_of 1609 (by decide +kernel) rfl
theorem me_X12_moebiusFrom : Cond.selects (yX12_moebiusFrom).cls yX12_moebiusFrom yX12_moebiusFrom ∈ TT := tt_of 85 (by decide +kernel) rfl
theorem md_X12_moebiusFrom : (yX12_moebiusFrom).cls ≠ "java/lang/invoke/MethodHandle" ∧ (yX12_moebiusFrom).cls ≠ "java/lang/invoke/VarHandle" ∧ (parseMethodDescriptor (yX12_moebiusFrom).desc).map (fun d => d.parameters.length) = some 2 := (by decide +kernel)
theorem cv_X12_279 : CV RX12 279 12 yX12_moebiusFrom cX12_moebiusFrom 6 (some .long) 2 := ⟨⟨TX12, cls_X12⟩, tt_of 1607 (by decide +kernel) rfl, mi_X12_moebiusFrom, me_X12_moebiusFrom, mn_X12_moebiusFrom, mc_X12_moebiusFrom, md_X12_moebiusFrom, by decide⟩
theorem mc_X12_kindValue : Cond.code yX12_kindValue cX12_kindValue 4 (some .long) ∈ TT := tt_of 1614 (by decide +kernel) rfl
theorem mn_X12_kindValue : Cond.initialized (yX12_kindValue).cls ∈ TT := tt_of 163 (by decide +kernel) rfl
theorem mi_X12_kindValue : Cond.instanceMethod yX12_kindValue ∈ TT := tt_of 1613 (by decide +kernel) rfl
theorem me_X12_kindValue : Cond.selects (yX12_kindValue).cls yX12_kindValue yX12_kindValue ∈ TT := tt_of 86 (by decide +kernel) rfl
theorem md_X12_kindValue : (yX12_kindValue).cls ≠ "java/lang/invoke/MethodHandle" ∧ (yX12_kindValue).cls ≠ "java/lang/invoke/VarHandle" ∧ (parseMethodDescriptor (yX12_kindValue).desc).map (fun d => d.parameters.length) = some 3 := (by decide +kernel)
theorem cv_X12_286 : CV RX12 286 12 yX12_kindValue cX12_kindValue 4 (some .long) 3 := ⟨⟨TX12, cls_X12⟩, tt_of 1611 (by decide +kernel) rfl, mi_X12_kindValue, me_X12_kindValue, mn_X12_kindValue, mc_X12_kindValue, md_X12_kindValue, by decide⟩
theorem mc_X12_takesMade : Cond.code yX12_takesMade cX12_takesMade 3 none ∈ TT := tt_of 1618 (by decide +kernel) rfl
theorem mn_X12_takesMade : Cond.initialized (yX12_takesMade).cls ∈ TT := tt_of 163 (by decide +kernel) rfl
theorem mi_X12_takesMade : Cond.instanceMethod yX12_takesMade ∈ TT := tt_of 1617 (by decide +kernel) rfl
theorem me_X12_takesMade : Cond.selects (yX12_takesMade).cls yX12_takesMade yX12_takesMade ∈ TT := tt_of 87 (by decide +kernel) rfl
theorem md_X12_takesMade : (yX12_takesMade).cls ≠ "java/lang/invoke/MethodHandle" ∧ (yX12_takesMade).cls ≠ "java/lang/invoke/VarHandle" ∧ (parseMethodDescriptor (yX12_takesMade).desc).map (fun d => d.parameters.length) = some 1 := (by decide +kernel)
theorem cv_X12_298 : CV RX12 298 12 yX12_takesMade cX12_takesMade 3 none 1 := ⟨⟨TX12, cls_X12⟩, tt_of 1615 (by decide +kernel) rfl, mi_X12_takesMade, me_X12_takesMade, mn_X12_takesMade, mc_X12_takesMade, md_X12_takesMade, by decide⟩
theorem mc_X12_put : Cond.code yX12_put cX12_put 5 (some .int) ∈ TT := tt_of 1622 (by decide +kernel) rfl
theorem mn_X12_put : Cond.initialized (yX12_put).cls ∈ TT := tt_of 163 (by decide +kernel) rfl
theorem mi_X12_put : Cond.instanceMethod yX12_put ∈ TT := tt_of 1620 (by decide +kernel) rfl
theorem me_X12_put : Cond.selects (yX12_put).cls yX12_put yX12_put ∈ TT := tt_of 1621 (by decide +kernel) rfl
theorem md_X12_put : (yX12_put).cls ≠ "java/lang/invoke/MethodHandle" ∧ (yX12_put).cls ≠ "java/lang/invoke/VarHandle" ∧ (parseMethodDescriptor (yX12_put).desc).map (fun d => d.parameters.length) = some 4 := (by decide +kernel)
theorem cv_L_46 : CV RL 46 12 yX12_put cX12_put 5 (some .int) 4 := ⟨⟨TX12, cls_X12⟩, tt_of 1619 (by decide +kernel) rfl, mi_X12_put, me_X12_put, mn_X12_put, mc_X12_put, md_X12_put, by decide⟩
theorem mc_X12_at : Cond.code yX12_at cX12_at 3 (some .int) ∈ TT := tt_of 1625 (by decide +kernel) rfl
theorem mn_X12_at : Cond.initialized (yX12_at).cls ∈ TT := tt_of 163 (by decide +kernel) rfl
theorem ms_X12_at : Cond.static yX12_at ∈ TT := tt_of 1624 (by decide +kernel) rfl
theorem md_X12_at : (yX12_at).cls ≠ "java/lang/invoke/MethodHandle" ∧ (yX12_at).cls ≠ "java/lang/invoke/VarHandle" ∧ (parseMethodDescriptor (yX12_at).desc).map (fun d => d.parameters.length) = some 3 := (by decide +kernel)
theorem ct_X12_301 : CT RX12 301 yX12_at cX12_at 3 (some .int) 3 := ⟨tt_of 1623 (by decide +kernel) rfl, ms_X12_at, mn_X12_at, mc_X12_at, md_X12_at, by decide⟩
theorem mc_X12_reckon : Cond.code yX12_reckon cX12_reckon 5 (some .int) ∈ TT := tt_of 1629 (by decide +kernel) rfl
theorem mn_X12_reckon : Cond.initialized (yX12_reckon).cls ∈ TT := tt_of 163 (by decide +kernel) rfl
theorem mi_X12_reckon : Cond.instanceMethod yX12_reckon ∈ TT := tt_of 1627 (by decide +kernel) rfl
theorem me_X12_reckon : Cond.selects (yX12_reckon).cls yX12_reckon yX12_reckon ∈ TT := tt_of 1628 (by decide +kernel) rfl
theorem md_X12_reckon : (yX12_reckon).cls ≠ "java/lang/invoke/MethodHandle" ∧ (yX12_reckon).cls ≠ "java/lang/invoke/VarHandle" ∧ (parseMethodDescriptor (yX12_reckon).desc).map (fun d => d.parameters.length) = some 4 := (by decide +kernel)
theorem cv_L_50 : CV RL 50 12 yX12_reckon cX12_reckon 5 (some .int) 4 := ⟨⟨TX12, cls_X12⟩, tt_of 1626 (by decide +kernel) rfl, mi_X12_reckon, me_X12_reckon, mn_X12_reckon, mc_X12_reckon, md_X12_reckon, by decide⟩
theorem mc_X12_takes : Cond.code yX12_takes cX12_takes 4 none ∈ TT := tt_of 1633 (by decide +kernel) rfl
theorem mn_X12_takes : Cond.initialized (yX12_takes).cls ∈ TT := tt_of 163 (by decide +kernel) rfl
theorem mi_X12_takes : Cond.instanceMethod yX12_takes ∈ TT := tt_of 1632 (by decide +kernel) rfl
theorem me_X12_takes : Cond.selects (yX12_takes).cls yX12_takes yX12_takes ∈ TT := tt_of 88 (by decide +kernel) rfl
theorem md_X12_takes : (yX12_takes).cls ≠ "java/lang/invoke/MethodHandle" ∧ (yX12_takes).cls ≠ "java/lang/invoke/VarHandle" ∧ (parseMethodDescriptor (yX12_takes).desc).map (fun d => d.parameters.length) = some 2 := (by decide +kernel)
theorem cv_X12_320 : CV RX12 320 12 yX12_takes cX12_takes 4 none 2 := ⟨⟨TX12, cls_X12⟩, tt_of 1630 (by decide +kernel) rfl, mi_X12_takes, me_X12_takes, mn_X12_takes, mc_X12_takes, md_X12_takes, by decide⟩
theorem mc_X12_reckons : Cond.code yX12_reckons cX12_reckons 4 none ∈ TT := tt_of 1637 (by decide +kernel) rfl
theorem mn_X12_reckons : Cond.initialized (yX12_reckons).cls ∈ TT := tt_of 163 (by decide +kernel) rfl
theorem mi_X12_reckons : Cond.instanceMethod yX12_reckons ∈ TT := tt_of 1636 (by decide +kernel) rfl
theorem me_X12_reckons : Cond.selects (yX12_reckons).cls yX12_reckons yX12_reckons ∈ TT := tt_of 89 (by decide +kernel) rfl
theorem md_X12_reckons : (yX12_reckons).cls ≠ "java/lang/invoke/MethodHandle" ∧ (yX12_reckons).cls ≠ "java/lang/invoke/VarHandle" ∧ (parseMethodDescriptor (yX12_reckons).desc).map (fun d => d.parameters.length) = some 1 := (by decide +kernel)
theorem cv_X12_324 : CV RX12 324 12 yX12_reckons cX12_reckons 4 none 1 := ⟨⟨TX12, cls_X12⟩, tt_of 1634 (by decide +kernel) rfl, mi_X12_reckons, me_X12_reckons, mn_X12_reckons, mc_X12_reckons, md_X12_reckons, by decide⟩
theorem mc_X12_reckoned : Cond.code yX12_reckoned cX12_reckoned 8 (some .long) ∈ TT := tt_of 1641 (by decide +kernel) rfl
theorem mn_X12_reckoned : Cond.initialized (yX12_reckoned).cls ∈ TT := tt_of 163 (by decide +kernel) rfl
theorem mi_X12_reckoned : Cond.instanceMethod yX12_reckoned ∈ TT := tt_of 1640 (by decide +kernel) rfl
theorem me_X12_reckoned : Cond.selects (yX12_reckoned).cls yX12_reckoned yX12_reckoned ∈ TT := tt_of 90 (by decide +kernel) rfl
theorem md_X12_reckoned : (yX12_reckoned).cls ≠ "java/lang/invoke/MethodHandle" ∧ (yX12_reckoned).cls ≠ "java/lang/invoke/VarHandle" ∧ (parseMethodDescriptor (yX12_reckoned).desc).map (fun d => d.parameters.length) = some 3 := (by decide +kernel)
theorem cv_X12_317 : CV RX12 317 12 yX12_reckoned cX12_reckoned 8 (some .long) 3 := ⟨⟨TX12, cls_X12⟩, tt_of 1638 (by decide +kernel) rfl, mi_X12_reckoned, me_X12_reckoned, mn_X12_reckoned, mc_X12_reckoned, md_X12_reckoned, by decide⟩
theorem mc_X12_plus : Cond.code yX12_plus cX12_plus 7 (some .long) ∈ TT := tt_of 1645 (by decide +kernel) rfl
theorem mn_X12_plus : Cond.initialized (yX12_plus).cls ∈ TT := tt_of 163 (by decide +kernel) rfl
theorem mi_X12_plus : Cond.instanceMethod yX12_plus ∈ TT := tt_of 1644 (by decide +kernel) rfl
theorem me_X12_plus : Cond.selects (yX12_plus).cls yX12_plus yX12_plus ∈ TT := tt_of 91 (by decide +kernel) rfl
theorem md_X12_plus : (yX12_plus).cls ≠ "java/lang/invoke/MethodHandle" ∧ (yX12_plus).cls ≠ "java/lang/invoke/VarHandle" ∧ (parseMethodDescriptor (yX12_plus).desc).map (fun d => d.parameters.length) = some 2 := (by decide +kernel)
theorem cv_X12_308 : CV RX12 308 12 yX12_plus cX12_plus 7 (some .long) 2 := ⟨⟨TX12, cls_X12⟩, tt_of 1642 (by decide +kernel) rfl, mi_X12_plus, me_X12_plus, mn_X12_plus, mc_X12_plus, md_X12_plus, by decide⟩
theorem mc_X12_minus : Cond.code yX12_minus cX12_minus 7 (some .long) ∈ TT := tt_of 1649 (by decide +kernel) rfl
theorem mn_X12_minus : Cond.initialized (yX12_minus).cls ∈ TT := tt_of 163 (by decide +kernel) rfl
theorem mi_X12_minus : Cond.instanceMethod yX12_minus ∈ TT := tt_of 1648 (by decide +kernel) rfl
theorem me_X12_minus : Cond.selects (yX12_minus).cls yX12_minus yX12_minus ∈ TT := tt_of 92 (by decide +kernel) rfl
theorem md_X12_minus : (yX12_minus).cls ≠ "java/lang/invoke/MethodHandle" ∧ (yX12_minus).cls ≠ "java/lang/invoke/VarHandle" ∧ (parseMethodDescriptor (yX12_minus).desc).map (fun d => d.parameters.length) = some 2 := (by decide +kernel)
theorem cv_X12_311 : CV RX12 311 12 yX12_minus cX12_minus 7 (some .long) 2 := ⟨⟨TX12, cls_X12⟩, tt_of 1646 (by decide +kernel) rfl, mi_X12_minus, me_X12_minus, mn_X12_minus, mc_X12_minus, md_X12_minus, by decide⟩
theorem mc_X12_convolved : Cond.code yX12_convolved cX12_convolved 7 (some .long) ∈ TT := tt_of 1653 (by decide +kernel) rfl
theorem mn_X12_convolved : Cond.initialized (yX12_convolved).cls ∈ TT := tt_of 163 (by decide +kernel) rfl
theorem mi_X12_convolved : Cond.instanceMethod yX12_convolved ∈ TT := tt_of 1652 (by decide +kernel) rfl
theorem me_X12_convolved : Cond.selects (yX12_convolved).cls yX12_convolved yX12_convolved ∈ TT := tt_of 93 (by decide +kernel) rfl
theorem md_X12_convolved : (yX12_convolved).cls ≠ "java/lang/invoke/MethodHandle" ∧ (yX12_convolved).cls ≠ "java/lang/invoke/VarHandle" ∧ (parseMethodDescriptor (yX12_convolved).desc).map (fun d => d.parameters.length) = some 2 := (by decide +kernel)
theorem cv_X12_314 : CV RX12 314 12 yX12_convolved cX12_convolved 7 (some .long) 2 := ⟨⟨TX12, cls_X12⟩, tt_of 1650 (by decide +kernel) rfl, mi_X12_convolved, me_X12_convolved, mn_X12_convolved, mc_X12_convolved, md_X12_convolved, by decide⟩
theorem mc_X12_times : Cond.code yX12_times cX12_times 7 (some .long) ∈ TT := tt_of 1657 (by decide +kernel) rfl
theorem mn_X12_times : Cond.initialized (yX12_times).cls ∈ TT := tt_of 163 (by decide +kernel) rfl
theorem mi_X12_times : Cond.instanceMethod yX12_times ∈ TT := tt_of 1656 (by decide +kernel) rfl
theorem me_X12_times : Cond.selects (yX12_times).cls yX12_times yX12_times ∈ TT := tt_of 94 (by decide +kernel) rfl
theorem md_X12_times : (yX12_times).cls ≠ "java/lang/invoke/MethodHandle" ∧ (yX12_times).cls ≠ "java/lang/invoke/VarHandle" ∧ (parseMethodDescriptor (yX12_times).desc).map (fun d => d.parameters.length) = some 2 := (by decide +kernel)
theorem cv_X12_304 : CV RX12 304 12 yX12_times cX12_times 7 (some .long) 2 := ⟨⟨TX12, cls_X12⟩, tt_of 1654 (by decide +kernel) rfl, mi_X12_times, me_X12_times, mn_X12_times, mc_X12_times, md_X12_times, by decide⟩
theorem mc_X12_invert : Cond.code yX12_invert cX12_invert 6 (some .int) ∈ TT := tt_of 1662 (by decide +kernel) rfl
theorem mn_X12_invert : Cond.initialized (yX12_invert).cls ∈ TT := tt_of 163 (by decide +kernel) rfl
theorem mi_X12_invert : Cond.instanceMethod yX12_invert ∈ TT := tt_of 1660 (by decide +kernel) rfl
theorem me_X12_invert : Cond.selects (yX12_invert).cls yX12_invert yX12_invert ∈ TT := tt_of 1661 (by decide +kernel) rfl
theorem md_X12_invert : (yX12_invert).cls ≠ "java/lang/invoke/MethodHandle" ∧ (yX12_invert).cls ≠ "java/lang/invoke/VarHandle" ∧ (parseMethodDescriptor (yX12_invert).desc).map (fun d => d.parameters.length) = some 2 := (by decide +kernel)
theorem cv_L_54 : CV RL 54 12 yX12_invert cX12_invert 6 (some .int) 2 := ⟨⟨TX12, cls_X12⟩, tt_of 1659 (by decide +kernel) rfl, mi_X12_invert, me_X12_invert, mn_X12_invert, mc_X12_invert, md_X12_invert, by decide⟩
theorem mc_X12_inverted : Cond.code yX12_inverted cX12_inverted 7 (some .long) ∈ TT := tt_of 1666 (by decide +kernel) rfl
theorem mn_X12_inverted : Cond.initialized (yX12_inverted).cls ∈ TT := tt_of 163 (by decide +kernel) rfl
theorem mi_X12_inverted : Cond.instanceMethod yX12_inverted ∈ TT := tt_of 1665 (by decide +kernel) rfl
theorem me_X12_inverted : Cond.selects (yX12_inverted).cls yX12_inverted yX12_inverted ∈ TT := tt_of 95 (by decide +kernel) rfl
theorem md_X12_inverted : (yX12_inverted).cls ≠ "java/lang/invoke/MethodHandle" ∧ (yX12_inverted).cls ≠ "java/lang/invoke/VarHandle" ∧ (parseMethodDescriptor (yX12_inverted).desc).map (fun d => d.parameters.length) = some 2 := (by decide +kernel)
theorem cv_X12_327 : CV RX12 327 12 yX12_inverted cX12_inverted 7 (some .long) 2 := ⟨⟨TX12, cls_X12⟩, tt_of 1663 (by decide +kernel) rfl, mi_X12_inverted, me_X12_inverted, mn_X12_inverted, mc_X12_inverted, md_X12_inverted, by decide⟩
theorem mc_X12_raise : Cond.code yX12_raise cX12_raise 4 (some .int) ∈ TT := tt_of 1670 (by decide +kernel) rfl
theorem mn_X12_raise : Cond.initialized (yX12_raise).cls ∈ TT := tt_of 163 (by decide +kernel) rfl
theorem mi_X12_raise : Cond.instanceMethod yX12_raise ∈ TT := tt_of 1668 (by decide +kernel) rfl
theorem me_X12_raise : Cond.selects (yX12_raise).cls yX12_raise yX12_raise ∈ TT := tt_of 1669 (by decide +kernel) rfl
theorem md_X12_raise : (yX12_raise).cls ≠ "java/lang/invoke/MethodHandle" ∧ (yX12_raise).cls ≠ "java/lang/invoke/VarHandle" ∧ (parseMethodDescriptor (yX12_raise).desc).map (fun d => d.parameters.length) = some 3 := (by decide +kernel)
theorem cv_L_58 : CV RL 58 12 yX12_raise cX12_raise 4 (some .int) 3 := ⟨⟨TX12, cls_X12⟩, tt_of 1667 (by decide +kernel) rfl, mi_X12_raise, me_X12_raise, mn_X12_raise, mc_X12_raise, md_X12_raise, by decide⟩
theorem mc_X12_raises : Cond.code yX12_raises cX12_raises 4 none ∈ TT := tt_of 1675 (by decide +kernel) rfl
theorem mn_X12_raises : Cond.initialized (yX12_raises).cls ∈ TT := tt_of 163 (by decide +kernel) rfl
theorem mi_X12_raises : Cond.instanceMethod yX12_raises ∈ TT := tt_of 1674 (by decide +kernel) rfl
theorem me_X12_raises : Cond.selects (yX12_raises).cls yX12_raises yX12_raises ∈ TT := tt_of 96 (by decide +kernel) rfl
theorem md_X12_raises : (yX12_raises).cls ≠ "java/lang/invoke/MethodHandle" ∧ (yX12_raises).cls ≠ "java/lang/invoke/VarHandle" ∧ (parseMethodDescriptor (yX12_raises).desc).map (fun d => d.parameters.length) = some 1 := (by decide +kernel)
theorem cv_X12_332 : CV RX12 332 12 yX12_raises cX12_raises 4 none 1 := ⟨⟨TX12, cls_X12⟩, tt_of 1672 (by decide +kernel) rfl, mi_X12_raises, me_X12_raises, mn_X12_raises, mc_X12_raises, md_X12_raises, by decide⟩
theorem mc_X12_data : Cond.code yX12_data cX12_data 4 (some .int) ∈ TT := tt_of 1679 (by decide +kernel) rfl
theorem mn_X12_data : Cond.initialized (yX12_data).cls ∈ TT := tt_of 163 (by decide +kernel) rfl
theorem mi_X12_data : Cond.instanceMethod yX12_data ∈ TT := tt_of 1677 (by decide +kernel) rfl
theorem me_X12_data : Cond.selects (yX12_data).cls yX12_data yX12_data ∈ TT := tt_of 1678 (by decide +kernel) rfl
theorem md_X12_data : (yX12_data).cls ≠ "java/lang/invoke/MethodHandle" ∧ (yX12_data).cls ≠ "java/lang/invoke/VarHandle" ∧ (parseMethodDescriptor (yX12_data).desc).map (fun d => d.parameters.length) = some 2 := (by decide +kernel)
theorem cv_L_65 : CV RL 65 12 yX12_data cX12_data 4 (some .int) 2 := ⟨⟨TX12, cls_X12⟩, tt_of 1676 (by decide +kernel) rfl, mi_X12_data, me_X12_data, mn_X12_data, mc_X12_data, md_X12_data, by decide⟩
theorem mc_X12_point : Cond.code yX12_point cX12_point 3 (some .int) ∈ TT := tt_of 1683 (by decide +kernel) rfl
theorem mn_X12_point : Cond.initialized (yX12_point).cls ∈ TT := tt_of 163 (by decide +kernel) rfl
theorem mi_X12_point : Cond.instanceMethod yX12_point ∈ TT := tt_of 1681 (by decide +kernel) rfl
theorem me_X12_point : Cond.selects (yX12_point).cls yX12_point yX12_point ∈ TT := tt_of 1682 (by decide +kernel) rfl
theorem md_X12_point : (yX12_point).cls ≠ "java/lang/invoke/MethodHandle" ∧ (yX12_point).cls ≠ "java/lang/invoke/VarHandle" ∧ (parseMethodDescriptor (yX12_point).desc).map (fun d => d.parameters.length) = some 2 := (by decide +kernel)
theorem cv_L_69 : CV RL 69 12 yX12_point cX12_point 3 (some .int) 2 := ⟨⟨TX12, cls_X12⟩, tt_of 1680 (by decide +kernel) rfl, mi_X12_point, me_X12_point, mn_X12_point, mc_X12_point, md_X12_point, by decide⟩
theorem mc_X12_value : Cond.code yX12_value cX12_value 4 (some .long) ∈ TT := tt_of 1687 (by decide +kernel) rfl
theorem mn_X12_value : Cond.initialized (yX12_value).cls ∈ TT := tt_of 163 (by decide +kernel) rfl
theorem mi_X12_value : Cond.instanceMethod yX12_value ∈ TT := tt_of 1685 (by decide +kernel) rfl
theorem me_X12_value : Cond.selects (yX12_value).cls yX12_value yX12_value ∈ TT := tt_of 1686 (by decide +kernel) rfl
theorem md_X12_value : (yX12_value).cls ≠ "java/lang/invoke/MethodHandle" ∧ (yX12_value).cls ≠ "java/lang/invoke/VarHandle" ∧ (parseMethodDescriptor (yX12_value).desc).map (fun d => d.parameters.length) = some 3 := (by decide +kernel)
theorem cv_L_82 : CV RL 82 12 yX12_value cX12_value 4 (some .long) 3 := ⟨⟨TX12, cls_X12⟩, tt_of 1684 (by decide +kernel) rfl, mi_X12_value, me_X12_value, mn_X12_value, mc_X12_value, md_X12_value, by decide⟩
theorem mc_X12_same : Cond.code yX12_same cX12_same 3 (some .int) ∈ TT := tt_of 1691 (by decide +kernel) rfl
theorem mn_X12_same : Cond.initialized (yX12_same).cls ∈ TT := tt_of 163 (by decide +kernel) rfl
theorem mi_X12_same : Cond.instanceMethod yX12_same ∈ TT := tt_of 1689 (by decide +kernel) rfl
theorem me_X12_same : Cond.selects (yX12_same).cls yX12_same yX12_same ∈ TT := tt_of 1690 (by decide +kernel) rfl
theorem md_X12_same : (yX12_same).cls ≠ "java/lang/invoke/MethodHandle" ∧ (yX12_same).cls ≠ "java/lang/invoke/VarHandle" ∧ (parseMethodDescriptor (yX12_same).desc).map (fun d => d.parameters.length) = some 2 := (by decide +kernel)
theorem cv_L_86 : CV RL 86 12 yX12_same cX12_same 3 (some .int) 2 := ⟨⟨TX12, cls_X12⟩, tt_of 1688 (by decide +kernel) rfl, mi_X12_same, me_X12_same, mn_X12_same, mc_X12_same, md_X12_same, by decide⟩
theorem mc_X12_areSame : Cond.code yX12_areSame cX12_areSame 4 (some .boolean) ∈ TT := tt_of 1695 (by decide +kernel) rfl
theorem mn_X12_areSame : Cond.initialized (yX12_areSame).cls ∈ TT := tt_of 163 (by decide +kernel) rfl
theorem mi_X12_areSame : Cond.instanceMethod yX12_areSame ∈ TT := tt_of 1694 (by decide +kernel) rfl
theorem me_X12_areSame : Cond.selects (yX12_areSame).cls yX12_areSame yX12_areSame ∈ TT := tt_of 97 (by decide +kernel) rfl
theorem md_X12_areSame : (yX12_areSame).cls ≠ "java/lang/invoke/MethodHandle" ∧ (yX12_areSame).cls ≠ "java/lang/invoke/VarHandle" ∧ (parseMethodDescriptor (yX12_areSame).desc).map (fun d => d.parameters.length) = some 2 := (by decide +kernel)
theorem cv_X12_335 : CV RX12 335 12 yX12_areSame cX12_areSame 4 (some .boolean) 2 := ⟨⟨TX12, cls_X12⟩, tt_of 1692 (by decide +kernel) rfl, mi_X12_areSame, me_X12_areSame, mn_X12_areSame, mc_X12_areSame, md_X12_areSame, by decide⟩
theorem mc_X12_about : Cond.code yX12_about cX12_about 3 (some .int) ∈ TT := tt_of 1699 (by decide +kernel) rfl
theorem mn_X12_about : Cond.initialized (yX12_about).cls ∈ TT := tt_of 163 (by decide +kernel) rfl
theorem mi_X12_about : Cond.instanceMethod yX12_about ∈ TT := tt_of 1697 (by decide +kernel) rfl
theorem me_X12_about : Cond.selects (yX12_about).cls yX12_about yX12_about ∈ TT := tt_of 1698 (by decide +kernel) rfl
theorem md_X12_about : (yX12_about).cls ≠ "java/lang/invoke/MethodHandle" ∧ (yX12_about).cls ≠ "java/lang/invoke/VarHandle" ∧ (parseMethodDescriptor (yX12_about).desc).map (fun d => d.parameters.length) = some 2 := (by decide +kernel)
theorem cv_L_90 : CV RL 90 12 yX12_about cX12_about 3 (some .int) 2 := ⟨⟨TX12, cls_X12⟩, tt_of 1696 (by decide +kernel) rfl, mi_X12_about, me_X12_about, mn_X12_about, mc_X12_about, md_X12_about, by decide⟩
theorem mc_X12_coverSet : Cond.code yX12_coverSet cX12_coverSet 4 (some .int) ∈ TT := tt_of 1703 (by decide +kernel) rfl
theorem mn_X12_coverSet : Cond.initialized (yX12_coverSet).cls ∈ TT := tt_of 163 (by decide +kernel) rfl
theorem mi_X12_coverSet : Cond.instanceMethod yX12_coverSet ∈ TT := tt_of 1702 (by decide +kernel) rfl
theorem me_X12_coverSet : Cond.selects (yX12_coverSet).cls yX12_coverSet yX12_coverSet ∈ TT := tt_of 98 (by decide +kernel) rfl
theorem md_X12_coverSet : (yX12_coverSet).cls ≠ "java/lang/invoke/MethodHandle" ∧ (yX12_coverSet).cls ≠ "java/lang/invoke/VarHandle" ∧ (parseMethodDescriptor (yX12_coverSet).desc).map (fun d => d.parameters.length) = some 1 := (by decide +kernel)
theorem cv_X12_341 : CV RX12 341 12 yX12_coverSet cX12_coverSet 4 (some .int) 1 := ⟨⟨TX12, cls_X12⟩, tt_of 1700 (by decide +kernel) rfl, mi_X12_coverSet, me_X12_coverSet, mn_X12_coverSet, mc_X12_coverSet, md_X12_coverSet, by decide⟩
theorem mc_X12_coveredSet : Cond.code yX12_coveredSet cX12_coveredSet 4 (some .int) ∈ TT := tt_of 1707 (by decide +kernel) rfl
theorem mn_X12_coveredSet : Cond.initialized (yX12_coveredSet).cls ∈ TT := tt_of 163 (by decide +kernel) rfl
theorem mi_X12_coveredSet : Cond.instanceMethod yX12_coveredSet ∈ TT := tt_of 1706 (by decide +kernel) rfl
theorem me_X12_coveredSet : Cond.selects (yX12_coveredSet).cls yX12_coveredSet yX12_coveredSet ∈ TT := tt_of 99 (by decide +kernel) rfl
theorem md_X12_coveredSet : (yX12_coveredSet).cls ≠ "java/lang/invoke/MethodHandle" ∧ (yX12_coveredSet).cls ≠ "java/lang/invoke/VarHandle" ∧ (parseMethodDescriptor (yX12_coveredSet).desc).map (fun d => d.parameters.length) = some 1 := (by decide +kernel)
theorem cv_X12_344 : CV RX12 344 12 yX12_coveredSet cX12_coveredSet 4 (some .int) 1 := ⟨⟨TX12, cls_X12⟩, tt_of 1704 (by decide +kernel) rfl, mi_X12_coveredSet, me_X12_coveredSet, mn_X12_coveredSet, mc_X12_coveredSet, md_X12_coveredSet, by decide⟩
theorem mc_X12_laysHeights : Cond.code yX12_laysHeights cX12_laysHeights 4 none ∈ TT := tt_of 1711 (by decide +kernel) rfl
theorem mn_X12_laysHeights : Cond.initialized (yX12_laysHeights).cls ∈ TT := tt_of 163 (by decide +kernel) rfl
theorem mi_X12_laysHeights : Cond.instanceMethod yX12_laysHeights ∈ TT := tt_of 1710 (by decide +kernel) rfl
theorem me_X12_laysHeights : Cond.selects (yX12_laysHeights).cls yX12_laysHeights yX12_laysHeights ∈ TT := tt_of 100 (by decide +kernel) rfl
theorem md_X12_laysHeights : (yX12_laysHeights).cls ≠ "java/lang/invoke/MethodHandle" ∧ (yX12_laysHeights).cls ≠ "java/lang/invoke/VarHandle" ∧ (parseMethodDescriptor (yX12_laysHeights).desc).map (fun d => d.parameters.length) = some 0 := (by decide +kernel)
theorem cv_X12_338 : CV RX12 338 12 yX12_laysHeights cX12_laysHeights 4 none 0 := ⟨⟨TX12, cls_X12⟩, tt_of 1708 (by decide +kernel) rfl, mi_X12_laysHeights, me_X12_laysHeights, mn_X12_laysHeights, mc_X12_laysHeights, md_X12_laysHeights, by decide⟩
theorem mc_X12_bound : Cond.code yX12_bound cX12_bound 4 (some .int) ∈ TT := tt_of 1715 (by decide +kernel) rfl
theorem mn_X12_bound : Cond.initialized (yX12_bound).cls ∈ TT := tt_of 163 (by decide +kernel) rfl
theorem mi_X12_bound : Cond.instanceMethod yX12_bound ∈ TT := tt_of 1713 (by decide +kernel) rfl
theorem me_X12_bound : Cond.selects (yX12_bound).cls yX12_bound yX12_bound ∈ TT := tt_of 1714 (by decide +kernel) rfl
theorem md_X12_bound : (yX12_bound).cls ≠ "java/lang/invoke/MethodHandle" ∧ (yX12_bound).cls ≠ "java/lang/invoke/VarHandle" ∧ (parseMethodDescriptor (yX12_bound).desc).map (fun d => d.parameters.length) = some 3 := (by decide +kernel)
theorem cv_L_94 : CV RL 94 12 yX12_bound cX12_bound 4 (some .int) 3 := ⟨⟨TX12, cls_X12⟩, tt_of 1712 (by decide +kernel) rfl, mi_X12_bound, me_X12_bound, mn_X12_bound, mc_X12_bound, md_X12_bound, by decide⟩
theorem mc_X12_join : Cond.code yX12_join cX12_join 3 (some .int) ∈ TT := tt_of 1720 (by decide +kernel) rfl
theorem mn_X12_join : Cond.initialized (yX12_join).cls ∈ TT := tt_of 163 (by decide +kernel) rfl
theorem mi_X12_join : Cond.instanceMethod yX12_join ∈ TT := tt_of 1719 (by decide +kernel) rfl
theorem me_X12_join : Cond.selects (yX12_join).cls yX12_join yX12_join ∈ TT := tt_of 101 (by decide +kernel) rfl
theorem md_X12_join : (yX12_join).cls ≠ "java/lang/invoke/MethodHandle" ∧ (yX12_join).cls ≠ "java/lang/invoke/VarHandle" ∧ (parseMethodDescriptor (yX12_join).desc).map (fun d => d.parameters.length) = some 2 := (by decide +kernel)
theorem cv_X12_355 : CV RX12 355 12 yX12_join cX12_join 3 (some .int) 2 := ⟨⟨TX12, cls_X12⟩, tt_of 1717 (by decide +kernel) rfl, mi_X12_join, me_X12_join, mn_X12_join, mc_X12_join, md_X12_join, by decide⟩
theorem mc_X12_leastOf : Cond.code yX12_leastOf cX12_leastOf 3 (some .int) ∈ TT := tt_of 1724 (by decide +kernel) rfl
theorem mn_X12_leastOf : Cond.initialized (yX12_leastOf).cls ∈ TT := tt_of 163 (by decide +kernel) rfl
theorem mi_X12_leastOf : Cond.instanceMethod yX12_leastOf ∈ TT := tt_of 1723 (by decide +kernel) rfl
theorem me_X12_leastOf : Cond.selects (yX12_leastOf).cls yX12_leastOf yX12_leastOf ∈ TT := tt_of 102 (by decide +kernel) rfl
theorem md_X12_leastOf : (yX12_leastOf).cls ≠ "java/lang/invoke/MethodHandle" ∧ (yX12_leastOf).cls ≠ "java/lang/invoke/VarHandle" ∧ (parseMethodDescriptor (yX12_leastOf).desc).map (fun d => d.parameters.length) = some 1 := (by decide +kernel)
theorem cv_X12_347 : CV RX12 347 12 yX12_leastOf cX12_leastOf 3 (some .int) 1 := ⟨⟨TX12, cls_X12⟩, tt_of 1721 (by decide +kernel) rfl, mi_X12_leastOf, me_X12_leastOf, mn_X12_leastOf, mc_X12_leastOf, md_X12_leastOf, by decide⟩
theorem mc_X12_meet : Cond.code yX12_meet cX12_meet 3 (some .int) ∈ TT := tt_of 1728 (by decide +kernel) rfl
theorem mn_X12_meet : Cond.initialized (yX12_meet).cls ∈ TT := tt_of 163 (by decide +kernel) rfl
theorem mi_X12_meet : Cond.instanceMethod yX12_meet ∈ TT := tt_of 1727 (by decide +kernel) rfl
theorem me_X12_meet : Cond.selects (yX12_meet).cls yX12_meet yX12_meet ∈ TT := tt_of 103 (by decide +kernel) rfl
theorem md_X12_meet : (yX12_meet).cls ≠ "java/lang/invoke/MethodHandle" ∧ (yX12_meet).cls ≠ "java/lang/invoke/VarHandle" ∧ (parseMethodDescriptor (yX12_meet).desc).map (fun d => d.parameters.length) = some 2 := (by decide +kernel)
theorem cv_X12_358 : CV RX12 358 12 yX12_meet cX12_meet 3 (some .int) 2 := ⟨⟨TX12, cls_X12⟩, tt_of 1725 (by decide +kernel) rfl, mi_X12_meet, me_X12_meet, mn_X12_meet, mc_X12_meet, md_X12_meet, by decide⟩
theorem mc_X12_greatestOf : Cond.code yX12_greatestOf cX12_greatestOf 3 (some .int) ∈ TT := tt_of 1732 (by decide +kernel) rfl
theorem mn_X12_greatestOf : Cond.initialized (yX12_greatestOf).cls ∈ TT := tt_of 163 (by decide +kernel) rfl
theorem mi_X12_greatestOf : Cond.instanceMethod yX12_greatestOf ∈ TT := tt_of 1731 (by decide +kernel) rfl
theorem me_X12_greatestOf : Cond.selects (yX12_greatestOf).cls yX12_greatestOf yX12_greatestOf ∈ TT := tt_of 104 (by decide +kernel) rfl
theorem md_X12_greatestOf : (yX12_greatestOf).cls ≠ "java/lang/invoke/MethodHandle" ∧ (yX12_greatestOf).cls ≠ "java/lang/invoke/VarHandle" ∧ (parseMethodDescriptor (yX12_greatestOf).desc).map (fun d => d.parameters.length) = some 1 := (by decide +kernel)
theorem cv_X12_350 : CV RX12 350 12 yX12_greatestOf cX12_greatestOf 3 (some .int) 1 := ⟨⟨TX12, cls_X12⟩, tt_of 1729 (by decide +kernel) rfl, mi_X12_greatestOf, me_X12_greatestOf, mn_X12_greatestOf, mc_X12_greatestOf, md_X12_greatestOf, by decide⟩
theorem mc_X12_chains : Cond.code yX12_chains cX12_chains 4 (some .long) ∈ TT := tt_of 1736 (by decide +kernel) rfl
theorem mn_X12_chains : Cond.initialized (yX12_chains).cls ∈ TT := tt_of 163 (by decide +kernel) rfl
theorem mi_X12_chains : Cond.instanceMethod yX12_chains ∈ TT := tt_of 1734 (by decide +kernel) rfl
theorem me_X12_chains : Cond.selects (yX12_chains).cls yX12_chains yX12_chains ∈ TT := tt_of 1735 (by decide +kernel) rfl
theorem md_X12_chains : (yX12_chains).cls ≠ "java/lang/invoke/MethodHandle" ∧ (yX12_chains).cls ≠ "java/lang/invoke/VarHandle" ∧ (parseMethodDescriptor (yX12_chains).desc).map (fun d => d.parameters.length) = some 3 := (by decide +kernel)
theorem cv_L_98 : CV RL 98 12 yX12_chains cX12_chains 4 (some .long) 3 := ⟨⟨TX12, cls_X12⟩, tt_of 1733 (by decide +kernel) rfl, mi_X12_chains, me_X12_chains, mn_X12_chains, mc_X12_chains, md_X12_chains, by decide⟩
theorem mc_X12_chainsOf : Cond.code yX12_chainsOf cX12_chainsOf 5 (some .long) ∈ TT := tt_of 1742 (by decide +kernel) rfl
theorem mn_X12_chainsOf : Cond.initialized (yX12_chainsOf).cls ∈ TT := tt_of 163 (by decide +kernel) rfl
theorem mi_X12_chainsOf : Cond.instanceMethod yX12_chainsOf ∈ TT := tt_of 1741 (by decide +kernel) rfl
theorem me_X12_chainsOf : Cond.selects (yX12_chainsOf).cls yX12_chainsOf yX12_chainsOf ∈ TT := tt_of 105 (by decide +kernel) rfl
theorem md_X12_chainsOf : (yX12_chainsOf).cls ≠ "java/lang/invoke/MethodHandle" ∧ (yX12_chainsOf).cls ≠ "java/lang/invoke/VarHandle" ∧ (parseMethodDescriptor (yX12_chainsOf).desc).map (fun d => d.parameters.length) = some 3 := (by decide +kernel)
theorem cv_X12_372 : CV RX12 372 12 yX12_chainsOf cX12_chainsOf 5 (some .long) 3 := ⟨⟨TX12, cls_X12⟩, tt_of 1739 (by decide +kernel) rfl, mi_X12_chainsOf, me_X12_chainsOf, mn_X12_chainsOf, mc_X12_chainsOf, md_X12_chainsOf, by decide⟩
theorem mc_X12_startsFrom : Cond.code yX12_startsFrom cX12_startsFrom 3 none ∈ TT := tt_of 1746 (by decide +kernel) rfl
theorem mn_X12_startsFrom : Cond.initialized (yX12_startsFrom).cls ∈ TT := tt_of 163 (by decide +kernel) rfl
theorem mi_X12_startsFrom : Cond.instanceMethod yX12_startsFrom ∈ TT := tt_of 1745 (by decide +kernel) rfl
theorem me_X12_startsFrom : Cond.selects (yX12_startsFrom).cls yX12_startsFrom yX12_startsFrom ∈ TT := tt_of 106 (by decide +kernel) rfl
theorem md_X12_startsFrom : (yX12_startsFrom).cls ≠ "java/lang/invoke/MethodHandle" ∧ (yX12_startsFrom).cls ≠ "java/lang/invoke/VarHandle" ∧ (parseMethodDescriptor (yX12_startsFrom).desc).map (fun d => d.parameters.length) = some 1 := (by decide +kernel)
theorem cv_X12_361 : CV RX12 361 12 yX12_startsFrom cX12_startsFrom 3 none 1 := ⟨⟨TX12, cls_X12⟩, tt_of 1743 (by decide +kernel) rfl, mi_X12_startsFrom, me_X12_startsFrom, mn_X12_startsFrom, mc_X12_startsFrom, md_X12_startsFrom, by decide⟩
theorem mc_X12_stepsOn : Cond.code yX12_stepsOn cX12_stepsOn 4 none ∈ TT := tt_of 1750 (by decide +kernel) rfl
theorem mn_X12_stepsOn : Cond.initialized (yX12_stepsOn).cls ∈ TT := tt_of 163 (by decide +kernel) rfl
theorem mi_X12_stepsOn : Cond.instanceMethod yX12_stepsOn ∈ TT := tt_of 1749 (by decide +kernel) rfl
theorem me_X12_stepsOn : Cond.selects (yX12_stepsOn).cls yX12_stepsOn yX12_stepsOn ∈ TT := tt_of 107 (by decide +kernel) rfl
theorem md_X12_stepsOn : (yX12_stepsOn).cls ≠ "java/lang/invoke/MethodHandle" ∧ (yX12_stepsOn).cls ≠ "java/lang/invoke/VarHandle" ∧ (parseMethodDescriptor (yX12_stepsOn).desc).map (fun d => d.parameters.length) = some 1 := (by decide +kernel)
theorem cv_X12_364 : CV RX12 364 12 yX12_stepsOn cX12_stepsOn 4 none 1 := ⟨⟨TX12, cls_X12⟩, tt_of 1747 (by decide +kernel) rfl, mi_X12_stepsOn, me_X12_stepsOn, mn_X12_stepsOn, mc_X12_stepsOn, md_X12_stepsOn, by decide⟩
theorem mc_X12_allChains : Cond.code yX12_allChains cX12_allChains 7 (some .long) ∈ TT := tt_of 1754 (by decide +kernel) rfl
theorem mn_X12_allChains : Cond.initialized (yX12_allChains).cls ∈ TT := tt_of 163 (by decide +kernel) rfl
theorem mi_X12_allChains : Cond.instanceMethod yX12_allChains ∈ TT := tt_of 1753 (by decide +kernel) rfl
theorem me_X12_allChains : Cond.selects (yX12_allChains).cls yX12_allChains yX12_allChains ∈ TT := tt_of 108 (by decide +kernel) rfl
theorem md_X12_allChains : (yX12_allChains).cls ≠ "java/lang/invoke/MethodHandle" ∧ (yX12_allChains).cls ≠ "java/lang/invoke/VarHandle" ∧ (parseMethodDescriptor (yX12_allChains).desc).map (fun d => d.parameters.length) = some 3 := (by decide +kernel)
theorem cv_X12_375 : CV RX12 375 12 yX12_allChains cX12_allChains 7 (some .long) 3 := ⟨⟨TX12, cls_X12⟩, tt_of 1751 (by decide +kernel) rfl, mi_X12_allChains, me_X12_allChains, mn_X12_allChains, mc_X12_allChains, md_X12_allChains, by decide⟩
theorem mc_X12_moebius : Cond.code yX12_moebius cX12_moebius 4 (some .long) ∈ TT := tt_of 1758 (by decide +kernel) rfl
theorem mn_X12_moebius : Cond.initialized (yX12_moebius).cls ∈ TT := tt_of 163 (by decide +kernel) rfl
theorem mi_X12_moebius : Cond.instanceMethod yX12_moebius ∈ TT := tt_of 1756 (by decide +kernel) rfl
theorem me_X12_moebius : Cond.selects (yX12_moebius).cls yX12_moebius yX12_moebius ∈ TT := tt_of 1757 (by decide +kernel) rfl
theorem md_X12_moebius : (yX12_moebius).cls ≠ "java/lang/invoke/MethodHandle" ∧ (yX12_moebius).cls ≠ "java/lang/invoke/VarHandle" ∧ (parseMethodDescriptor (yX12_moebius).desc).map (fun d => d.parameters.length) = some 3 := (by decide +kernel)
theorem cv_L_102 : CV RL 102 12 yX12_moebius cX12_moebius 4 (some .long) 3 := ⟨⟨TX12, cls_X12⟩, tt_of 1755 (by decide +kernel) rfl, mi_X12_moebius, me_X12_moebius, mn_X12_moebius, mc_X12_moebius, md_X12_moebius, by decide⟩
theorem mc_X12_fromBelow : Cond.code yX12_fromBelow cX12_fromBelow 3 (some .long) ∈ TT := tt_of 1762 (by decide +kernel) rfl
theorem mn_X12_fromBelow : Cond.initialized (yX12_fromBelow).cls ∈ TT := tt_of 163 (by decide +kernel) rfl
theorem mi_X12_fromBelow : Cond.instanceMethod yX12_fromBelow ∈ TT := tt_of 1761 (by decide +kernel) rfl
theorem me_X12_fromBelow : Cond.selects (yX12_fromBelow).cls yX12_fromBelow yX12_fromBelow ∈ TT := tt_of 109 (by decide +kernel) rfl
theorem md_X12_fromBelow : (yX12_fromBelow).cls ≠ "java/lang/invoke/MethodHandle" ∧ (yX12_fromBelow).cls ≠ "java/lang/invoke/VarHandle" ∧ (parseMethodDescriptor (yX12_fromBelow).desc).map (fun d => d.parameters.length) = some 2 := (by decide +kernel)
theorem cv_X12_388 : CV RX12 388 12 yX12_fromBelow cX12_fromBelow 3 (some .long) 2 := ⟨⟨TX12, cls_X12⟩, tt_of 1759 (by decide +kernel) rfl, mi_X12_fromBelow, me_X12_fromBelow, mn_X12_fromBelow, mc_X12_fromBelow, md_X12_fromBelow, by decide⟩
theorem mc_X12_fromAbove : Cond.code yX12_fromAbove cX12_fromAbove 8 (some .long) ∈ TT := tt_of 1766 (by decide +kernel) rfl
theorem mn_X12_fromAbove : Cond.initialized (yX12_fromAbove).cls ∈ TT := tt_of 163 (by decide +kernel) rfl
theorem mi_X12_fromAbove : Cond.instanceMethod yX12_fromAbove ∈ TT := tt_of 1765 (by decide +kernel) rfl
theorem me_X12_fromAbove : Cond.selects (yX12_fromAbove).cls yX12_fromAbove yX12_fromAbove ∈ TT := tt_of 110 (by decide +kernel) rfl
theorem md_X12_fromAbove : (yX12_fromAbove).cls ≠ "java/lang/invoke/MethodHandle" ∧ (yX12_fromAbove).cls ≠ "java/lang/invoke/VarHandle" ∧ (parseMethodDescriptor (yX12_fromAbove).desc).map (fun d => d.parameters.length) = some 2 := (by decide +kernel)
theorem cv_X12_391 : CV RX12 391 12 yX12_fromAbove cX12_fromAbove 8 (some .long) 2 := ⟨⟨TX12, cls_X12⟩, tt_of 1763 (by decide +kernel) rfl, mi_X12_fromAbove, me_X12_fromAbove, mn_X12_fromAbove, mc_X12_fromAbove, md_X12_fromAbove, by decide⟩
theorem mc_X12_byChains : Cond.code yX12_byChains cX12_byChains 6 (some .long) ∈ TT := tt_of 1770 (by decide +kernel) rfl
theorem mn_X12_byChains : Cond.initialized (yX12_byChains).cls ∈ TT := tt_of 163 (by decide +kernel) rfl
theorem mi_X12_byChains : Cond.instanceMethod yX12_byChains ∈ TT := tt_of 1769 (by decide +kernel) rfl
theorem me_X12_byChains : Cond.selects (yX12_byChains).cls yX12_byChains yX12_byChains ∈ TT := tt_of 111 (by decide +kernel) rfl
theorem md_X12_byChains : (yX12_byChains).cls ≠ "java/lang/invoke/MethodHandle" ∧ (yX12_byChains).cls ≠ "java/lang/invoke/VarHandle" ∧ (parseMethodDescriptor (yX12_byChains).desc).map (fun d => d.parameters.length) = some 2 := (by decide +kernel)
theorem cv_X12_394 : CV RX12 394 12 yX12_byChains cX12_byChains 6 (some .long) 2 := ⟨⟨TX12, cls_X12⟩, tt_of 1767 (by decide +kernel) rfl, mi_X12_byChains, me_X12_byChains, mn_X12_byChains, mc_X12_byChains, md_X12_byChains, by decide⟩
theorem mc_X12_byCrossCut : Cond.code yX12_byCrossCut cX12_byCrossCut 8 (some .long) ∈ TT := tt_of 1774 (by decide +kernel) rfl
theorem mn_X12_byCrossCut : Cond.initialized (yX12_byCrossCut).cls ∈ TT := tt_of 163 (by decide +kernel) rfl
theorem mi_X12_byCrossCut : Cond.instanceMethod yX12_byCrossCut ∈ TT := tt_of 1773 (by decide +kernel) rfl
theorem me_X12_byCrossCut : Cond.selects (yX12_byCrossCut).cls yX12_byCrossCut yX12_byCrossCut ∈ TT := tt_of 112 (by decide +kernel) rfl
theorem md_X12_byCrossCut : (yX12_byCrossCut).cls ≠ "java/lang/invoke/MethodHandle" ∧ (yX12_byCrossCut).cls ≠ "java/lang/invoke/VarHandle" ∧ (parseMethodDescriptor (yX12_byCrossCut).desc).map (fun d => d.parameters.length) = some 2 := (by decide +kernel)
theorem cv_X12_397 : CV RX12 397 12 yX12_byCrossCut cX12_byCrossCut 8 (some .long) 2 := ⟨⟨TX12, cls_X12⟩, tt_of 1771 (by decide +kernel) rfl, mi_X12_byCrossCut, me_X12_byCrossCut, mn_X12_byCrossCut, mc_X12_byCrossCut, md_X12_byCrossCut, by decide⟩
theorem mc_X12_areJoined : Cond.code yX12_areJoined cX12_areJoined 4 (some .boolean) ∈ TT := tt_of 1778 (by decide +kernel) rfl
theorem mn_X12_areJoined : Cond.initialized (yX12_areJoined).cls ∈ TT := tt_of 163 (by decide +kernel) rfl
theorem mi_X12_areJoined : Cond.instanceMethod yX12_areJoined ∈ TT := tt_of 1777 (by decide +kernel) rfl
theorem me_X12_areJoined : Cond.selects (yX12_areJoined).cls yX12_areJoined yX12_areJoined ∈ TT := tt_of 113 (by decide +kernel) rfl
theorem md_X12_areJoined : (yX12_areJoined).cls ≠ "java/lang/invoke/MethodHandle" ∧ (yX12_areJoined).cls ≠ "java/lang/invoke/VarHandle" ∧ (parseMethodDescriptor (yX12_areJoined).desc).map (fun d => d.parameters.length) = some 1 := (by decide +kernel)
theorem cv_X12_382 : CV RX12 382 12 yX12_areJoined cX12_areJoined 4 (some .boolean) 1 := ⟨⟨TX12, cls_X12⟩, tt_of 1775 (by decide +kernel) rfl, mi_X12_areJoined, me_X12_areJoined, mn_X12_areJoined, mc_X12_areJoined, md_X12_areJoined, by decide⟩
theorem mc_X12_joinWithin : Cond.code yX12_joinWithin cX12_joinWithin 4 (some .int) ∈ TT := tt_of 1782 (by decide +kernel) rfl
theorem mn_X12_joinWithin : Cond.initialized (yX12_joinWithin).cls ∈ TT := tt_of 163 (by decide +kernel) rfl
theorem mi_X12_joinWithin : Cond.instanceMethod yX12_joinWithin ∈ TT := tt_of 1781 (by decide +kernel) rfl
theorem me_X12_joinWithin : Cond.selects (yX12_joinWithin).cls yX12_joinWithin yX12_joinWithin ∈ TT := tt_of 114 (by decide +kernel) rfl
theorem md_X12_joinWithin : (yX12_joinWithin).cls ≠ "java/lang/invoke/MethodHandle" ∧ (yX12_joinWithin).cls ≠ "java/lang/invoke/VarHandle" ∧ (parseMethodDescriptor (yX12_joinWithin).desc).map (fun d => d.parameters.length) = some 3 := (by decide +kernel)
theorem cv_X12_379 : CV RX12 379 12 yX12_joinWithin cX12_joinWithin 4 (some .int) 3 := ⟨⟨TX12, cls_X12⟩, tt_of 1779 (by decide +kernel) rfl, mi_X12_joinWithin, me_X12_joinWithin, mn_X12_joinWithin, mc_X12_joinWithin, md_X12_joinWithin, by decide⟩
theorem mc_X12_joinOf : Cond.code yX12_joinOf cX12_joinOf 6 (some .int) ∈ TT := tt_of 1786 (by decide +kernel) rfl
theorem mn_X12_joinOf : Cond.initialized (yX12_joinOf).cls ∈ TT := tt_of 163 (by decide +kernel) rfl
theorem mi_X12_joinOf : Cond.instanceMethod yX12_joinOf ∈ TT := tt_of 1785 (by decide +kernel) rfl
theorem me_X12_joinOf : Cond.selects (yX12_joinOf).cls yX12_joinOf yX12_joinOf ∈ TT := tt_of 115 (by decide +kernel) rfl
theorem md_X12_joinOf : (yX12_joinOf).cls ≠ "java/lang/invoke/MethodHandle" ∧ (yX12_joinOf).cls ≠ "java/lang/invoke/VarHandle" ∧ (parseMethodDescriptor (yX12_joinOf).desc).map (fun d => d.parameters.length) = some 3 := (by decide +kernel)
theorem cv_X12_385 : CV RX12 385 12 yX12_joinOf cX12_joinOf 6 (some .int) 3 := ⟨⟨TX12, cls_X12⟩, tt_of 1783 (by decide +kernel) rfl, mi_X12_joinOf, me_X12_joinOf, mn_X12_joinOf, mc_X12_joinOf, md_X12_joinOf, by decide⟩
theorem mc_X12_multichains : Cond.code yX12_multichains cX12_multichains 7 (some .long) ∈ TT := tt_of 1790 (by decide +kernel) rfl
theorem mn_X12_multichains : Cond.initialized (yX12_multichains).cls ∈ TT := tt_of 163 (by decide +kernel) rfl
theorem mi_X12_multichains : Cond.instanceMethod yX12_multichains ∈ TT := tt_of 1788 (by decide +kernel) rfl
theorem me_X12_multichains : Cond.selects (yX12_multichains).cls yX12_multichains yX12_multichains ∈ TT := tt_of 1789 (by decide +kernel) rfl
theorem md_X12_multichains : (yX12_multichains).cls ≠ "java/lang/invoke/MethodHandle" ∧ (yX12_multichains).cls ≠ "java/lang/invoke/VarHandle" ∧ (parseMethodDescriptor (yX12_multichains).desc).map (fun d => d.parameters.length) = some 3 := (by decide +kernel)
theorem cv_L_106 : CV RL 106 12 yX12_multichains cX12_multichains 7 (some .long) 3 := ⟨⟨TX12, cls_X12⟩, tt_of 1787 (by decide +kernel) rfl, mi_X12_multichains, me_X12_multichains, mn_X12_multichains, mc_X12_multichains, md_X12_multichains, by decide⟩
theorem mc_X12_sets : Cond.code yX12_sets cX12_sets 3 (some .long) ∈ TT := tt_of 1795 (by decide +kernel) rfl
theorem mn_X12_sets : Cond.initialized (yX12_sets).cls ∈ TT := tt_of 163 (by decide +kernel) rfl
theorem mi_X12_sets : Cond.instanceMethod yX12_sets ∈ TT := tt_of 1793 (by decide +kernel) rfl
theorem me_X12_sets : Cond.selects (yX12_sets).cls yX12_sets yX12_sets ∈ TT := tt_of 1794 (by decide +kernel) rfl
theorem md_X12_sets : (yX12_sets).cls ≠ "java/lang/invoke/MethodHandle" ∧ (yX12_sets).cls ≠ "java/lang/invoke/VarHandle" ∧ (parseMethodDescriptor (yX12_sets).desc).map (fun d => d.parameters.length) = some 2 := (by decide +kernel)
theorem cv_L_111 : CV RL 111 12 yX12_sets cX12_sets 3 (some .long) 2 := ⟨⟨TX12, cls_X12⟩, tt_of 1792 (by decide +kernel) rfl, mi_X12_sets, me_X12_sets, mn_X12_sets, mc_X12_sets, md_X12_sets, by decide⟩
theorem mc_X12_downSets : Cond.code yX12_downSets cX12_downSets 5 (some .long) ∈ TT := tt_of 1799 (by decide +kernel) rfl
theorem mn_X12_downSets : Cond.initialized (yX12_downSets).cls ∈ TT := tt_of 163 (by decide +kernel) rfl
theorem mi_X12_downSets : Cond.instanceMethod yX12_downSets ∈ TT := tt_of 1798 (by decide +kernel) rfl
theorem me_X12_downSets : Cond.selects (yX12_downSets).cls yX12_downSets yX12_downSets ∈ TT := tt_of 116 (by decide +kernel) rfl
theorem md_X12_downSets : (yX12_downSets).cls ≠ "java/lang/invoke/MethodHandle" ∧ (yX12_downSets).cls ≠ "java/lang/invoke/VarHandle" ∧ (parseMethodDescriptor (yX12_downSets).desc).map (fun d => d.parameters.length) = some 1 := (by decide +kernel)
theorem cv_X12_408 : CV RX12 408 12 yX12_downSets cX12_downSets 5 (some .long) 1 := ⟨⟨TX12, cls_X12⟩, tt_of 1796 (by decide +kernel) rfl, mi_X12_downSets, me_X12_downSets, mn_X12_downSets, mc_X12_downSets, md_X12_downSets, by decide⟩
theorem mc_X12_laysDown : Cond.code yX12_laysDown cX12_laysDown 2 none ∈ TT := tt_of 1803 (by decide +kernel) rfl
theorem mn_X12_laysDown : Cond.initialized (yX12_laysDown).cls ∈ TT := tt_of 163 (by decide +kernel) rfl
theorem mi_X12_laysDown : Cond.instanceMethod yX12_laysDown ∈ TT := tt_of 1802 (by decide +kernel) rfl
theorem me_X12_laysDown : Cond.selects (yX12_laysDown).cls yX12_laysDown yX12_laysDown ∈ TT := tt_of 117 (by decide +kernel) rfl
theorem md_X12_laysDown : (yX12_laysDown).cls ≠ "java/lang/invoke/MethodHandle" ∧ (yX12_laysDown).cls ≠ "java/lang/invoke/VarHandle" ∧ (parseMethodDescriptor (yX12_laysDown).desc).map (fun d => d.parameters.length) = some 0 := (by decide +kernel)
theorem cv_X12_402 : CV RX12 402 12 yX12_laysDown cX12_laysDown 2 none 0 := ⟨⟨TX12, cls_X12⟩, tt_of 1800 (by decide +kernel) rfl, mi_X12_laysDown, me_X12_laysDown, mn_X12_laysDown, mc_X12_laysDown, md_X12_laysDown, by decide⟩
theorem mc_X12_isDownSet : Cond.code yX12_isDownSet cX12_isDownSet 3 (some .boolean) ∈ TT := tt_of 1807 (by decide +kernel) rfl
theorem mn_X12_isDownSet : Cond.initialized (yX12_isDownSet).cls ∈ TT := tt_of 163 (by decide +kernel) rfl
theorem mi_X12_isDownSet : Cond.instanceMethod yX12_isDownSet ∈ TT := tt_of 1806 (by decide +kernel) rfl
theorem me_X12_isDownSet : Cond.selects (yX12_isDownSet).cls yX12_isDownSet yX12_isDownSet ∈ TT := tt_of 118 (by decide +kernel) rfl
theorem md_X12_isDownSet : (yX12_isDownSet).cls ≠ "java/lang/invoke/MethodHandle" ∧ (yX12_isDownSet).cls ≠ "java/lang/invoke/VarHandle" ∧ (parseMethodDescriptor (yX12_isDownSet).desc).map (fun d => d.parameters.length) = some 1 := (by decide +kernel)
theorem cv_X12_405 : CV RX12 405 12 yX12_isDownSet cX12_isDownSet 3 (some .boolean) 1 := ⟨⟨TX12, cls_X12⟩, tt_of 1804 (by decide +kernel) rfl, mi_X12_isDownSet, me_X12_isDownSet, mn_X12_isDownSet, mc_X12_isDownSet, md_X12_isDownSet, by decide⟩
theorem mc_X12_extensions : Cond.code yX12_extensions cX12_extensions 3 (some .long) ∈ TT := tt_of 1811 (by decide +kernel) rfl
theorem mn_X12_extensions : Cond.initialized (yX12_extensions).cls ∈ TT := tt_of 163 (by decide +kernel) rfl
theorem mi_X12_extensions : Cond.instanceMethod yX12_extensions ∈ TT := tt_of 1810 (by decide +kernel) rfl
theorem me_X12_extensions : Cond.selects (yX12_extensions).cls yX12_extensions yX12_extensions ∈ TT := tt_of 119 (by decide +kernel) rfl
theorem md_X12_extensions : (yX12_extensions).cls ≠ "java/lang/invoke/MethodHandle" ∧ (yX12_extensions).cls ≠ "java/lang/invoke/VarHandle" ∧ (parseMethodDescriptor (yX12_extensions).desc).map (fun d => d.parameters.length) = some 0 := (by decide +kernel)
theorem cv_X12_412 : CV RX12 412 12 yX12_extensions cX12_extensions 3 (some .long) 0 := ⟨⟨TX12, cls_X12⟩, tt_of 1808 (by decide +kernel) rfl, mi_X12_extensions, me_X12_extensions, mn_X12_extensions, mc_X12_extensions, md_X12_extensions, by decide⟩
theorem mc_X12_type : Cond.code yX12_type cX12_type 3 (some .int) ∈ TT := tt_of 1815 (by decide +kernel) rfl
theorem mn_X12_type : Cond.initialized (yX12_type).cls ∈ TT := tt_of 163 (by decide +kernel) rfl
theorem mi_X12_type : Cond.instanceMethod yX12_type ∈ TT := tt_of 1813 (by decide +kernel) rfl
theorem me_X12_type : Cond.selects (yX12_type).cls yX12_type yX12_type ∈ TT := tt_of 1814 (by decide +kernel) rfl
theorem md_X12_type : (yX12_type).cls ≠ "java/lang/invoke/MethodHandle" ∧ (yX12_type).cls ≠ "java/lang/invoke/VarHandle" ∧ (parseMethodDescriptor (yX12_type).desc).map (fun d => d.parameters.length) = some 2 := (by decide +kernel)
theorem cv_L_115 : CV RL 115 12 yX12_type cX12_type 3 (some .int) 2 := ⟨⟨TX12, cls_X12⟩, tt_of 1812 (by decide +kernel) rfl, mi_X12_type, me_X12_type, mn_X12_type, mc_X12_type, md_X12_type, by decide⟩
theorem mc_X12_laysTypes : Cond.code yX12_laysTypes cX12_laysTypes 4 none ∈ TT := tt_of 1819 (by decide +kernel) rfl
theorem mn_X12_laysTypes : Cond.initialized (yX12_laysTypes).cls ∈ TT := tt_of 163 (by decide +kernel) rfl
theorem mi_X12_laysTypes : Cond.instanceMethod yX12_laysTypes ∈ TT := tt_of 1818 (by decide +kernel) rfl
theorem me_X12_laysTypes : Cond.selects (yX12_laysTypes).cls yX12_laysTypes yX12_laysTypes ∈ TT := tt_of 120 (by decide +kernel) rfl
theorem md_X12_laysTypes : (yX12_laysTypes).cls ≠ "java/lang/invoke/MethodHandle" ∧ (yX12_laysTypes).cls ≠ "java/lang/invoke/VarHandle" ∧ (parseMethodDescriptor (yX12_laysTypes).desc).map (fun d => d.parameters.length) = some 0 := (by decide +kernel)
theorem cv_X12_440 : CV RX12 440 12 yX12_laysTypes cX12_laysTypes 4 none 0 := ⟨⟨TX12, cls_X12⟩, tt_of 1816 (by decide +kernel) rfl, mi_X12_laysTypes, me_X12_laysTypes, mn_X12_laysTypes, mc_X12_laysTypes, md_X12_laysTypes, by decide⟩
theorem mc_X12_areAlike : Cond.code yX12_areAlike cX12_areAlike 5 (some .boolean) ∈ TT := tt_of 1823 (by decide +kernel) rfl
theorem mn_X12_areAlike : Cond.initialized (yX12_areAlike).cls ∈ TT := tt_of 163 (by decide +kernel) rfl
theorem mi_X12_areAlike : Cond.instanceMethod yX12_areAlike ∈ TT := tt_of 1822 (by decide +kernel) rfl
theorem me_X12_areAlike : Cond.selects (yX12_areAlike).cls yX12_areAlike yX12_areAlike ∈ TT := tt_of 121 (by decide +kernel) rfl
theorem md_X12_areAlike : (yX12_areAlike).cls ≠ "java/lang/invoke/MethodHandle" ∧ (yX12_areAlike).cls ≠ "java/lang/invoke/VarHandle" ∧ (parseMethodDescriptor (yX12_areAlike).desc).map (fun d => d.parameters.length) = some 2 := (by decide +kernel)
theorem cv_X12_437 : CV RX12 437 12 yX12_areAlike cX12_areAlike 5 (some .boolean) 2 := ⟨⟨TX12, cls_X12⟩, tt_of 1820 (by decide +kernel) rfl, mi_X12_areAlike, me_X12_areAlike, mn_X12_areAlike, mc_X12_areAlike, md_X12_areAlike, by decide⟩
theorem mc_X12_pairsOn : Cond.code yX12_pairsOn cX12_pairsOn 4 (some .boolean) ∈ TT := tt_of 1827 (by decide +kernel) rfl
theorem mn_X12_pairsOn : Cond.initialized (yX12_pairsOn).cls ∈ TT := tt_of 163 (by decide +kernel) rfl
theorem mi_X12_pairsOn : Cond.instanceMethod yX12_pairsOn ∈ TT := tt_of 1826 (by decide +kernel) rfl
theorem me_X12_pairsOn : Cond.selects (yX12_pairsOn).cls yX12_pairsOn yX12_pairsOn ∈ TT := tt_of 122 (by decide +kernel) rfl
theorem md_X12_pairsOn : (yX12_pairsOn).cls ≠ "java/lang/invoke/MethodHandle" ∧ (yX12_pairsOn).cls ≠ "java/lang/invoke/VarHandle" ∧ (parseMethodDescriptor (yX12_pairsOn).desc).map (fun d => d.parameters.length) = some 2 := (by decide +kernel)
theorem cv_X12_431 : CV RX12 431 12 yX12_pairsOn cX12_pairsOn 4 (some .boolean) 2 := ⟨⟨TX12, cls_X12⟩, tt_of 1824 (by decide +kernel) rfl, mi_X12_pairsOn, me_X12_pairsOn, mn_X12_pairsOn, mc_X12_pairsOn, md_X12_pairsOn, by decide⟩
theorem mc_X12_fits : Cond.code yX12_fits cX12_fits 5 (some .boolean) ∈ TT := tt_of 1831 (by decide +kernel) rfl
theorem mn_X12_fits : Cond.initialized (yX12_fits).cls ∈ TT := tt_of 163 (by decide +kernel) rfl
theorem mi_X12_fits : Cond.instanceMethod yX12_fits ∈ TT := tt_of 1830 (by decide +kernel) rfl
theorem me_X12_fits : Cond.selects (yX12_fits).cls yX12_fits yX12_fits ∈ TT := tt_of 123 (by decide +kernel) rfl
theorem md_X12_fits : (yX12_fits).cls ≠ "java/lang/invoke/MethodHandle" ∧ (yX12_fits).cls ≠ "java/lang/invoke/VarHandle" ∧ (parseMethodDescriptor (yX12_fits).desc).map (fun d => d.parameters.length) = some 2 := (by decide +kernel)
theorem cv_X12_428 : CV RX12 428 12 yX12_fits cX12_fits 5 (some .boolean) 2 := ⟨⟨TX12, cls_X12⟩, tt_of 1828 (by decide +kernel) rfl, mi_X12_fits, me_X12_fits, mn_X12_fits, mc_X12_fits, md_X12_fits, by decide⟩
theorem mc_X12_belowIn : Cond.code yX12_belowIn cX12_belowIn 3 (some .int) ∈ TT := tt_of 1835 (by decide +kernel) rfl
theorem mn_X12_belowIn : Cond.initialized (yX12_belowIn).cls ∈ TT := tt_of 163 (by decide +kernel) rfl
theorem mi_X12_belowIn : Cond.instanceMethod yX12_belowIn ∈ TT := tt_of 1834 (by decide +kernel) rfl
theorem me_X12_belowIn : Cond.selects (yX12_belowIn).cls yX12_belowIn yX12_belowIn ∈ TT := tt_of 124 (by decide +kernel) rfl
theorem md_X12_belowIn : (yX12_belowIn).cls ≠ "java/lang/invoke/MethodHandle" ∧ (yX12_belowIn).cls ≠ "java/lang/invoke/VarHandle" ∧ (parseMethodDescriptor (yX12_belowIn).desc).map (fun d => d.parameters.length) = some 2 := (by decide +kernel)
theorem cv_X12_419 : CV RX12 419 12 yX12_belowIn cX12_belowIn 3 (some .int) 2 := ⟨⟨TX12, cls_X12⟩, tt_of 1832 (by decide +kernel) rfl, mi_X12_belowIn, me_X12_belowIn, mn_X12_belowIn, mc_X12_belowIn, md_X12_belowIn, by decide⟩
theorem mc_X12_aboveIn : Cond.code yX12_aboveIn cX12_aboveIn 3 (some .int) ∈ TT := tt_of 1839 (by decide +kernel) rfl
theorem mn_X12_aboveIn : Cond.initialized (yX12_aboveIn).cls ∈ TT := tt_of 163 (by decide +kernel) rfl
theorem mi_X12_aboveIn : Cond.instanceMethod yX12_aboveIn ∈ TT := tt_of 1838 (by decide +kernel) rfl
theorem me_X12_aboveIn : Cond.selects (yX12_aboveIn).cls yX12_aboveIn yX12_aboveIn ∈ TT := tt_of 125 (by decide +kernel) rfl
theorem md_X12_aboveIn : (yX12_aboveIn).cls ≠ "java/lang/invoke/MethodHandle" ∧ (yX12_aboveIn).cls ≠ "java/lang/invoke/VarHandle" ∧ (parseMethodDescriptor (yX12_aboveIn).desc).map (fun d => d.parameters.length) = some 2 := (by decide +kernel)
theorem cv_X12_425 : CV RX12 425 12 yX12_aboveIn cX12_aboveIn 3 (some .int) 2 := ⟨⟨TX12, cls_X12⟩, tt_of 1836 (by decide +kernel) rfl, mi_X12_aboveIn, me_X12_aboveIn, mn_X12_aboveIn, mc_X12_aboveIn, md_X12_aboveIn, by decide⟩
theorem mc_X12_split : Cond.code yX12_split cX12_split 9 (some .int) ∈ TT := tt_of 1843 (by decide +kernel) rfl
theorem mn_X12_split : Cond.initialized (yX12_split).cls ∈ TT := tt_of 163 (by decide +kernel) rfl
theorem mi_X12_split : Cond.instanceMethod yX12_split ∈ TT := tt_of 1841 (by decide +kernel) rfl
theorem me_X12_split : Cond.selects (yX12_split).cls yX12_split yX12_split ∈ TT := tt_of 1842 (by decide +kernel) rfl
theorem md_X12_split : (yX12_split).cls ≠ "java/lang/invoke/MethodHandle" ∧ (yX12_split).cls ≠ "java/lang/invoke/VarHandle" ∧ (parseMethodDescriptor (yX12_split).desc).map (fun d => d.parameters.length) = some 3 := (by decide +kernel)
theorem cv_L_119 : CV RL 119 12 yX12_split cX12_split 9 (some .int) 3 := ⟨⟨TX12, cls_X12⟩, tt_of 1840 (by decide +kernel) rfl, mi_X12_split, me_X12_split, mn_X12_split, mc_X12_split, md_X12_split, by decide⟩
theorem mc_X12_isType : Cond.code yX12_isType cX12_isType 2 (some .boolean) ∈ TT := tt_of 1847 (by decide +kernel) rfl
theorem mn_X12_isType : Cond.initialized (yX12_isType).cls ∈ TT := tt_of 163 (by decide +kernel) rfl
theorem mi_X12_isType : Cond.instanceMethod yX12_isType ∈ TT := tt_of 1846 (by decide +kernel) rfl
theorem me_X12_isType : Cond.selects (yX12_isType).cls yX12_isType yX12_isType ∈ TT := tt_of 126 (by decide +kernel) rfl
theorem md_X12_isType : (yX12_isType).cls ≠ "java/lang/invoke/MethodHandle" ∧ (yX12_isType).cls ≠ "java/lang/invoke/VarHandle" ∧ (parseMethodDescriptor (yX12_isType).desc).map (fun d => d.parameters.length) = some 1 := (by decide +kernel)
theorem cv_X12_443 : CV RX12 443 12 yX12_isType cX12_isType 2 (some .boolean) 1 := ⟨⟨TX12, cls_X12⟩, tt_of 1844 (by decide +kernel) rfl, mi_X12_isType, me_X12_isType, mn_X12_isType, mc_X12_isType, md_X12_isType, by decide⟩
theorem mc_X12_reduced : Cond.code yX12_reduced cX12_reduced 3 (some .long) ∈ TT := tt_of 1851 (by decide +kernel) rfl
theorem mn_X12_reduced : Cond.initialized (yX12_reduced).cls ∈ TT := tt_of 163 (by decide +kernel) rfl
theorem mi_X12_reduced : Cond.instanceMethod yX12_reduced ∈ TT := tt_of 1849 (by decide +kernel) rfl
theorem me_X12_reduced : Cond.selects (yX12_reduced).cls yX12_reduced yX12_reduced ∈ TT := tt_of 1850 (by decide +kernel) rfl
theorem md_X12_reduced : (yX12_reduced).cls ≠ "java/lang/invoke/MethodHandle" ∧ (yX12_reduced).cls ≠ "java/lang/invoke/VarHandle" ∧ (parseMethodDescriptor (yX12_reduced).desc).map (fun d => d.parameters.length) = some 2 := (by decide +kernel)
theorem cv_L_123 : CV RL 123 12 yX12_reduced cX12_reduced 3 (some .long) 2 := ⟨⟨TX12, cls_X12⟩, tt_of 1848 (by decide +kernel) rfl, mi_X12_reduced, me_X12_reduced, mn_X12_reduced, mc_X12_reduced, md_X12_reduced, by decide⟩
theorem mc_X12_isReduced : Cond.code yX12_isReduced cX12_isReduced 4 (some .boolean) ∈ TT := tt_of 1855 (by decide +kernel) rfl
theorem mn_X12_isReduced : Cond.initialized (yX12_isReduced).cls ∈ TT := tt_of 163 (by decide +kernel) rfl
theorem mi_X12_isReduced : Cond.instanceMethod yX12_isReduced ∈ TT := tt_of 1854 (by decide +kernel) rfl
theorem me_X12_isReduced : Cond.selects (yX12_isReduced).cls yX12_isReduced yX12_isReduced ∈ TT := tt_of 127 (by decide +kernel) rfl
theorem md_X12_isReduced : (yX12_isReduced).cls ≠ "java/lang/invoke/MethodHandle" ∧ (yX12_isReduced).cls ≠ "java/lang/invoke/VarHandle" ∧ (parseMethodDescriptor (yX12_isReduced).desc).map (fun d => d.parameters.length) = some 1 := (by decide +kernel)
theorem cv_X12_449 : CV RX12 449 12 yX12_isReduced cX12_isReduced 4 (some .boolean) 1 := ⟨⟨TX12, cls_X12⟩, tt_of 1852 (by decide +kernel) rfl, mi_X12_isReduced, me_X12_isReduced, mn_X12_isReduced, mc_X12_isReduced, md_X12_isReduced, by decide⟩
theorem mc_X12_valueOfType : Cond.code yX12_valueOfType cX12_valueOfType 3 (some .long) ∈ TT := tt_of 1859 (by decide +kernel) rfl
theorem mn_X12_valueOfType : Cond.initialized (yX12_valueOfType).cls ∈ TT := tt_of 163 (by decide +kernel) rfl
theorem mi_X12_valueOfType : Cond.instanceMethod yX12_valueOfType ∈ TT := tt_of 1858 (by decide +kernel) rfl
theorem me_X12_valueOfType : Cond.selects (yX12_valueOfType).cls yX12_valueOfType yX12_valueOfType ∈ TT := tt_of 128 (by decide +kernel) rfl
theorem md_X12_valueOfType : (yX12_valueOfType).cls ≠ "java/lang/invoke/MethodHandle" ∧ (yX12_valueOfType).cls ≠ "java/lang/invoke/VarHandle" ∧ (parseMethodDescriptor (yX12_valueOfType).desc).map (fun d => d.parameters.length) = some 2 := (by decide +kernel)
theorem cv_X12_446 : CV RX12 446 12 yX12_valueOfType cX12_valueOfType 3 (some .long) 2 := ⟨⟨TX12, cls_X12⟩, tt_of 1856 (by decide +kernel) rfl, mi_X12_valueOfType, me_X12_valueOfType, mn_X12_valueOfType, mc_X12_valueOfType, md_X12_valueOfType, by decide⟩
theorem mc_X12_summed : Cond.code yX12_summed cX12_summed 7 (some .long) ∈ TT := tt_of 1863 (by decide +kernel) rfl
theorem mn_X12_summed : Cond.initialized (yX12_summed).cls ∈ TT := tt_of 163 (by decide +kernel) rfl
theorem mi_X12_summed : Cond.instanceMethod yX12_summed ∈ TT := tt_of 1861 (by decide +kernel) rfl
theorem me_X12_summed : Cond.selects (yX12_summed).cls yX12_summed yX12_summed ∈ TT := tt_of 1862 (by decide +kernel) rfl
theorem md_X12_summed : (yX12_summed).cls ≠ "java/lang/invoke/MethodHandle" ∧ (yX12_summed).cls ≠ "java/lang/invoke/VarHandle" ∧ (parseMethodDescriptor (yX12_summed).desc).map (fun d => d.parameters.length) = some 2 := (by decide +kernel)
theorem cv_L_127 : CV RL 127 12 yX12_summed cX12_summed 7 (some .long) 2 := ⟨⟨TX12, cls_X12⟩, tt_of 1860 (by decide +kernel) rfl, mi_X12_summed, me_X12_summed, mn_X12_summed, mc_X12_summed, md_X12_summed, by decide⟩
theorem mc_X12_gotBack : Cond.code yX12_gotBack cX12_gotBack 7 (some .long) ∈ TT := tt_of 1867 (by decide +kernel) rfl
theorem mn_X12_gotBack : Cond.initialized (yX12_gotBack).cls ∈ TT := tt_of 163 (by decide +kernel) rfl
theorem mi_X12_gotBack : Cond.instanceMethod yX12_gotBack ∈ TT := tt_of 1865 (by decide +kernel) rfl
theorem me_X12_gotBack : Cond.selects (yX12_gotBack).cls yX12_gotBack yX12_gotBack ∈ TT := tt_of 1866 (by decide +kernel) rfl
theorem md_X12_gotBack : (yX12_gotBack).cls ≠ "java/lang/invoke/MethodHandle" ∧ (yX12_gotBack).cls ≠ "java/lang/invoke/VarHandle" ∧ (parseMethodDescriptor (yX12_gotBack).desc).map (fun d => d.parameters.length) = some 2 := (by decide +kernel)
theorem cv_L_131 : CV RL 131 12 yX12_gotBack cX12_gotBack 7 (some .long) 2 := ⟨⟨TX12, cls_X12⟩, tt_of 1864 (by decide +kernel) rfl, mi_X12_gotBack, me_X12_gotBack, mn_X12_gotBack, mc_X12_gotBack, md_X12_gotBack, by decide⟩
theorem mc_X12_mapped : Cond.code yX12_mapped cX12_mapped 3 (some .int) ∈ TT := tt_of 1871 (by decide +kernel) rfl
theorem mn_X12_mapped : Cond.initialized (yX12_mapped).cls ∈ TT := tt_of 163 (by decide +kernel) rfl
theorem mi_X12_mapped : Cond.instanceMethod yX12_mapped ∈ TT := tt_of 1869 (by decide +kernel) rfl
theorem me_X12_mapped : Cond.selects (yX12_mapped).cls yX12_mapped yX12_mapped ∈ TT := tt_of 1870 (by decide +kernel) rfl
theorem md_X12_mapped : (yX12_mapped).cls ≠ "java/lang/invoke/MethodHandle" ∧ (yX12_mapped).cls ≠ "java/lang/invoke/VarHandle" ∧ (parseMethodDescriptor (yX12_mapped).desc).map (fun d => d.parameters.length) = some 1 := (by decide +kernel)
theorem cv_L_135 : CV RL 135 12 yX12_mapped cX12_mapped 3 (some .int) 1 := ⟨⟨TX12, cls_X12⟩, tt_of 1868 (by decide +kernel) rfl, mi_X12_mapped, me_X12_mapped, mn_X12_mapped, mc_X12_mapped, md_X12_mapped, by decide⟩
theorem mc_X12_isWhole : Cond.code yX12_isWhole cX12_isWhole 2 (some .boolean) ∈ TT := tt_of 1875 (by decide +kernel) rfl
theorem mn_X12_isWhole : Cond.initialized (yX12_isWhole).cls ∈ TT := tt_of 163 (by decide +kernel) rfl
theorem mi_X12_isWhole : Cond.instanceMethod yX12_isWhole ∈ TT := tt_of 1874 (by decide +kernel) rfl
theorem me_X12_isWhole : Cond.selects (yX12_isWhole).cls yX12_isWhole yX12_isWhole ∈ TT := tt_of 129 (by decide +kernel) rfl
theorem md_X12_isWhole : (yX12_isWhole).cls ≠ "java/lang/invoke/MethodHandle" ∧ (yX12_isWhole).cls ≠ "java/lang/invoke/VarHandle" ∧ (parseMethodDescriptor (yX12_isWhole).desc).map (fun d => d.parameters.length) = some 0 := (by decide +kernel)
theorem cv_X12_461 : CV RX12 461 12 yX12_isWhole cX12_isWhole 2 (some .boolean) 0 := ⟨⟨TX12, cls_X12⟩, tt_of 1872 (by decide +kernel) rfl, mi_X12_isWhole, me_X12_isWhole, mn_X12_isWhole, mc_X12_isWhole, md_X12_isWhole, by decide⟩
theorem mc_X12_mapOf : Cond.code yX12_mapOf cX12_mapOf 2 (some .int) ∈ TT := tt_of 1879 (by decide +kernel) rfl
theorem mn_X12_mapOf : Cond.initialized (yX12_mapOf).cls ∈ TT := tt_of 163 (by decide +kernel) rfl
theorem mi_X12_mapOf : Cond.instanceMethod yX12_mapOf ∈ TT := tt_of 1878 (by decide +kernel) rfl
theorem me_X12_mapOf : Cond.selects (yX12_mapOf).cls yX12_mapOf yX12_mapOf ∈ TT := tt_of 130 (by decide +kernel) rfl
theorem md_X12_mapOf : (yX12_mapOf).cls ≠ "java/lang/invoke/MethodHandle" ∧ (yX12_mapOf).cls ≠ "java/lang/invoke/VarHandle" ∧ (parseMethodDescriptor (yX12_mapOf).desc).map (fun d => d.parameters.length) = some 1 := (by decide +kernel)
theorem cv_X12_452 : CV RX12 452 12 yX12_mapOf cX12_mapOf 2 (some .int) 1 := ⟨⟨TX12, cls_X12⟩, tt_of 1876 (by decide +kernel) rfl, mi_X12_mapOf, me_X12_mapOf, mn_X12_mapOf, mc_X12_mapOf, md_X12_mapOf, by decide⟩
theorem mc_X12_isMonotone : Cond.code yX12_isMonotone cX12_isMonotone 3 (some .boolean) ∈ TT := tt_of 1883 (by decide +kernel) rfl
theorem mn_X12_isMonotone : Cond.initialized (yX12_isMonotone).cls ∈ TT := tt_of 163 (by decide +kernel) rfl
theorem mi_X12_isMonotone : Cond.instanceMethod yX12_isMonotone ∈ TT := tt_of 1882 (by decide +kernel) rfl
theorem me_X12_isMonotone : Cond.selects (yX12_isMonotone).cls yX12_isMonotone yX12_isMonotone ∈ TT := tt_of 131 (by decide +kernel) rfl
theorem md_X12_isMonotone : (yX12_isMonotone).cls ≠ "java/lang/invoke/MethodHandle" ∧ (yX12_isMonotone).cls ≠ "java/lang/invoke/VarHandle" ∧ (parseMethodDescriptor (yX12_isMonotone).desc).map (fun d => d.parameters.length) = some 0 := (by decide +kernel)
theorem cv_X12_464 : CV RX12 464 12 yX12_isMonotone cX12_isMonotone 3 (some .boolean) 0 := ⟨⟨TX12, cls_X12⟩, tt_of 1880 (by decide +kernel) rfl, mi_X12_isMonotone, me_X12_isMonotone, mn_X12_isMonotone, mc_X12_isMonotone, md_X12_isMonotone, by decide⟩
theorem mc_X12_isAtMostThere : Cond.code yX12_isAtMostThere cX12_isAtMostThere 3 (some .boolean) ∈ TT := tt_of 1887 (by decide +kernel) rfl
theorem mn_X12_isAtMostThere : Cond.initialized (yX12_isAtMostThere).cls ∈ TT := tt_of 163 (by decide +kernel) rfl
theorem mi_X12_isAtMostThere : Cond.instanceMethod yX12_isAtMostThere ∈ TT := tt_of 1886 (by decide +kernel) rfl
theorem me_X12_isAtMostThere : Cond.selects (yX12_isAtMostThere).cls yX12_isAtMostThere yX12_isAtMostThere ∈ TT := tt_of 132 (by decide +kernel) rfl
theorem md_X12_isAtMostThere : (yX12_isAtMostThere).cls ≠ "java/lang/invoke/MethodHandle" ∧ (yX12_isAtMostThere).cls ≠ "java/lang/invoke/VarHandle" ∧ (parseMethodDescriptor (yX12_isAtMostThere).desc).map (fun d => d.parameters.length) = some 2 := (by decide +kernel)
theorem cv_X12_455 : CV RX12 455 12 yX12_isAtMostThere cX12_isAtMostThere 3 (some .boolean) 2 := ⟨⟨TX12, cls_X12⟩, tt_of 1884 (by decide +kernel) rfl, mi_X12_isAtMostThere, me_X12_isAtMostThere, mn_X12_isAtMostThere, mc_X12_isAtMostThere, md_X12_isAtMostThere, by decide⟩
theorem mc_X12_isJoined : Cond.code yX12_isJoined cX12_isJoined 2 (some .boolean) ∈ TT := tt_of 1891 (by decide +kernel) rfl
theorem mn_X12_isJoined : Cond.initialized (yX12_isJoined).cls ∈ TT := tt_of 163 (by decide +kernel) rfl
theorem mi_X12_isJoined : Cond.instanceMethod yX12_isJoined ∈ TT := tt_of 1890 (by decide +kernel) rfl
theorem me_X12_isJoined : Cond.selects (yX12_isJoined).cls yX12_isJoined yX12_isJoined ∈ TT := tt_of 133 (by decide +kernel) rfl
theorem md_X12_isJoined : (yX12_isJoined).cls ≠ "java/lang/invoke/MethodHandle" ∧ (yX12_isJoined).cls ≠ "java/lang/invoke/VarHandle" ∧ (parseMethodDescriptor (yX12_isJoined).desc).map (fun d => d.parameters.length) = some 0 := (by decide +kernel)
theorem cv_X12_467 : CV RX12 467 12 yX12_isJoined cX12_isJoined 2 (some .boolean) 0 := ⟨⟨TX12, cls_X12⟩, tt_of 1888 (by decide +kernel) rfl, mi_X12_isJoined, me_X12_isJoined, mn_X12_isJoined, mc_X12_isJoined, md_X12_isJoined, by decide⟩
theorem mc_X12_adjointOf : Cond.code yX12_adjointOf cX12_adjointOf 4 (some .int) ∈ TT := tt_of 1895 (by decide +kernel) rfl
theorem mn_X12_adjointOf : Cond.initialized (yX12_adjointOf).cls ∈ TT := tt_of 163 (by decide +kernel) rfl
theorem mi_X12_adjointOf : Cond.instanceMethod yX12_adjointOf ∈ TT := tt_of 1894 (by decide +kernel) rfl
theorem me_X12_adjointOf : Cond.selects (yX12_adjointOf).cls yX12_adjointOf yX12_adjointOf ∈ TT := tt_of 134 (by decide +kernel) rfl
theorem md_X12_adjointOf : (yX12_adjointOf).cls ≠ "java/lang/invoke/MethodHandle" ∧ (yX12_adjointOf).cls ≠ "java/lang/invoke/VarHandle" ∧ (parseMethodDescriptor (yX12_adjointOf).desc).map (fun d => d.parameters.length) = some 1 := (by decide +kernel)
theorem cv_X12_458 : CV RX12 458 12 yX12_adjointOf cX12_adjointOf 4 (some .int) 1 := ⟨⟨TX12, cls_X12⟩, tt_of 1892 (by decide +kernel) rfl, mi_X12_adjointOf, me_X12_adjointOf, mn_X12_adjointOf, mc_X12_adjointOf, md_X12_adjointOf, by decide⟩
theorem mc_X12_adjoint : Cond.code yX12_adjoint cX12_adjoint 2 (some .int) ∈ TT := tt_of 1899 (by decide +kernel) rfl
theorem mn_X12_adjoint : Cond.initialized (yX12_adjoint).cls ∈ TT := tt_of 163 (by decide +kernel) rfl
theorem mi_X12_adjoint : Cond.instanceMethod yX12_adjoint ∈ TT := tt_of 1897 (by decide +kernel) rfl
theorem me_X12_adjoint : Cond.selects (yX12_adjoint).cls yX12_adjoint yX12_adjoint ∈ TT := tt_of 1898 (by decide +kernel) rfl
theorem md_X12_adjoint : (yX12_adjoint).cls ≠ "java/lang/invoke/MethodHandle" ∧ (yX12_adjoint).cls ≠ "java/lang/invoke/VarHandle" ∧ (parseMethodDescriptor (yX12_adjoint).desc).map (fun d => d.parameters.length) = some 1 := (by decide +kernel)
theorem cv_L_139 : CV RL 139 12 yX12_adjoint cX12_adjoint 2 (some .int) 1 := ⟨⟨TX12, cls_X12⟩, tt_of 1896 (by decide +kernel) rfl, mi_X12_adjoint, me_X12_adjoint, mn_X12_adjoint, mc_X12_adjoint, md_X12_adjoint, by decide⟩
theorem mc_X12_isThere : Cond.code yX12_isThere cX12_isThere 2 (some .boolean) ∈ TT := tt_of 1903 (by decide +kernel) rfl
theorem mn_X12_isThere : Cond.initialized (yX12_isThere).cls ∈ TT := tt_of 163 (by decide +kernel) rfl
theorem mi_X12_isThere : Cond.instanceMethod yX12_isThere ∈ TT := tt_of 1902 (by decide +kernel) rfl
theorem me_X12_isThere : Cond.selects (yX12_isThere).cls yX12_isThere yX12_isThere ∈ TT := tt_of 135 (by decide +kernel) rfl
theorem md_X12_isThere : (yX12_isThere).cls ≠ "java/lang/invoke/MethodHandle" ∧ (yX12_isThere).cls ≠ "java/lang/invoke/VarHandle" ∧ (parseMethodDescriptor (yX12_isThere).desc).map (fun d => d.parameters.length) = some 1 := (by decide +kernel)
theorem cv_X12_470 : CV RX12 470 12 yX12_isThere cX12_isThere 2 (some .boolean) 1 := ⟨⟨TX12, cls_X12⟩, tt_of 1900 (by decide +kernel) rfl, mi_X12_isThere, me_X12_isThere, mn_X12_isThere, mc_X12_isThere, md_X12_isThere, by decide⟩
theorem mc_X12_side : Cond.code yX12_side cX12_side 4 (some .long) ∈ TT := tt_of 1907 (by decide +kernel) rfl
theorem mn_X12_side : Cond.initialized (yX12_side).cls ∈ TT := tt_of 163 (by decide +kernel) rfl
theorem mi_X12_side : Cond.instanceMethod yX12_side ∈ TT := tt_of 1905 (by decide +kernel) rfl
theorem me_X12_side : Cond.selects (yX12_side).cls yX12_side yX12_side ∈ TT := tt_of 1906 (by decide +kernel) rfl
theorem md_X12_side : (yX12_side).cls ≠ "java/lang/invoke/MethodHandle" ∧ (yX12_side).cls ≠ "java/lang/invoke/VarHandle" ∧ (parseMethodDescriptor (yX12_side).desc).map (fun d => d.parameters.length) = some 3 := (by decide +kernel)
theorem cv_L_143 : CV RL 143 12 yX12_side cX12_side 4 (some .long) 3 := ⟨⟨TX12, cls_X12⟩, tt_of 1904 (by decide +kernel) rfl, mi_X12_side, me_X12_side, mn_X12_side, mc_X12_side, md_X12_side, by decide⟩
theorem mc_X12_sideHere : Cond.code yX12_sideHere cX12_sideHere 6 (some .long) ∈ TT := tt_of 1911 (by decide +kernel) rfl
theorem mn_X12_sideHere : Cond.initialized (yX12_sideHere).cls ∈ TT := tt_of 163 (by decide +kernel) rfl
theorem mi_X12_sideHere : Cond.instanceMethod yX12_sideHere ∈ TT := tt_of 1910 (by decide +kernel) rfl
theorem me_X12_sideHere : Cond.selects (yX12_sideHere).cls yX12_sideHere yX12_sideHere ∈ TT := tt_of 136 (by decide +kernel) rfl
theorem md_X12_sideHere : (yX12_sideHere).cls ≠ "java/lang/invoke/MethodHandle" ∧ (yX12_sideHere).cls ≠ "java/lang/invoke/VarHandle" ∧ (parseMethodDescriptor (yX12_sideHere).desc).map (fun d => d.parameters.length) = some 2 := (by decide +kernel)
theorem cv_X12_479 : CV RX12 479 12 yX12_sideHere cX12_sideHere 6 (some .long) 2 := ⟨⟨TX12, cls_X12⟩, tt_of 1908 (by decide +kernel) rfl, mi_X12_sideHere, me_X12_sideHere, mn_X12_sideHere, mc_X12_sideHere, md_X12_sideHere, by decide⟩
theorem mc_X12_sideThere : Cond.code yX12_sideThere cX12_sideThere 6 (some .long) ∈ TT := tt_of 1915 (by decide +kernel) rfl
theorem mn_X12_sideThere : Cond.initialized (yX12_sideThere).cls ∈ TT := tt_of 163 (by decide +kernel) rfl
theorem mi_X12_sideThere : Cond.instanceMethod yX12_sideThere ∈ TT := tt_of 1914 (by decide +kernel) rfl
theorem me_X12_sideThere : Cond.selects (yX12_sideThere).cls yX12_sideThere yX12_sideThere ∈ TT := tt_of 137 (by decide +kernel) rfl
theorem md_X12_sideThere : (yX12_sideThere).cls ≠ "java/lang/invoke/MethodHandle" ∧ (yX12_sideThere).cls ≠ "java/lang/invoke/VarHandle" ∧ (parseMethodDescriptor (yX12_sideThere).desc).map (fun d => d.parameters.length) = some 2 := (by decide +kernel)
theorem cv_X12_482 : CV RX12 482 12 yX12_sideThere cX12_sideThere 6 (some .long) 2 := ⟨⟨TX12, cls_X12⟩, tt_of 1912 (by decide +kernel) rfl, mi_X12_sideThere, me_X12_sideThere, mn_X12_sideThere, mc_X12_sideThere, md_X12_sideThere, by decide⟩
theorem mc_X12_laysThere : Cond.code yX12_laysThere cX12_laysThere 5 none ∈ TT := tt_of 1919 (by decide +kernel) rfl
theorem mn_X12_laysThere : Cond.initialized (yX12_laysThere).cls ∈ TT := tt_of 163 (by decide +kernel) rfl
theorem mi_X12_laysThere : Cond.instanceMethod yX12_laysThere ∈ TT := tt_of 1918 (by decide +kernel) rfl
theorem me_X12_laysThere : Cond.selects (yX12_laysThere).cls yX12_laysThere yX12_laysThere ∈ TT := tt_of 138 (by decide +kernel) rfl
theorem md_X12_laysThere : (yX12_laysThere).cls ≠ "java/lang/invoke/MethodHandle" ∧ (yX12_laysThere).cls ≠ "java/lang/invoke/VarHandle" ∧ (parseMethodDescriptor (yX12_laysThere).desc).map (fun d => d.parameters.length) = some 1 := (by decide +kernel)
theorem cv_X12_476 : CV RX12 476 12 yX12_laysThere cX12_laysThere 5 none 1 := ⟨⟨TX12, cls_X12⟩, tt_of 1916 (by decide +kernel) rfl, mi_X12_laysThere, me_X12_laysThere, mn_X12_laysThere, mc_X12_laysThere, md_X12_laysThere, by decide⟩
theorem mc_X12_sizeThere : Cond.code yX12_sizeThere cX12_sizeThere 5 (some .int) ∈ TT := tt_of 1923 (by decide +kernel) rfl
theorem mn_X12_sizeThere : Cond.initialized (yX12_sizeThere).cls ∈ TT := tt_of 163 (by decide +kernel) rfl
theorem mi_X12_sizeThere : Cond.instanceMethod yX12_sizeThere ∈ TT := tt_of 1922 (by decide +kernel) rfl
theorem me_X12_sizeThere : Cond.selects (yX12_sizeThere).cls yX12_sizeThere yX12_sizeThere ∈ TT := tt_of 139 (by decide +kernel) rfl
theorem md_X12_sizeThere : (yX12_sizeThere).cls ≠ "java/lang/invoke/MethodHandle" ∧ (yX12_sizeThere).cls ≠ "java/lang/invoke/VarHandle" ∧ (parseMethodDescriptor (yX12_sizeThere).desc).map (fun d => d.parameters.length) = some 2 := (by decide +kernel)
theorem cv_X12_473 : CV RX12 473 12 yX12_sizeThere cX12_sizeThere 5 (some .int) 2 := ⟨⟨TX12, cls_X12⟩, tt_of 1920 (by decide +kernel) rfl, mi_X12_sizeThere, me_X12_sizeThere, mn_X12_sizeThere, mc_X12_sizeThere, md_X12_sizeThere, by decide⟩
theorem mc_X12_coefficient : Cond.code yX12_coefficient cX12_coefficient 8 (some .long) ∈ TT := tt_of 1927 (by decide +kernel) rfl
theorem mn_X12_coefficient : Cond.initialized (yX12_coefficient).cls ∈ TT := tt_of 163 (by decide +kernel) rfl
theorem mi_X12_coefficient : Cond.instanceMethod yX12_coefficient ∈ TT := tt_of 1925 (by decide +kernel) rfl
theorem me_X12_coefficient : Cond.selects (yX12_coefficient).cls yX12_coefficient yX12_coefficient ∈ TT := tt_of 1926 (by decide +kernel) rfl
theorem md_X12_coefficient : (yX12_coefficient).cls ≠ "java/lang/invoke/MethodHandle" ∧ (yX12_coefficient).cls ≠ "java/lang/invoke/VarHandle" ∧ (parseMethodDescriptor (yX12_coefficient).desc).map (fun d => d.parameters.length) = some 1 := (by decide +kernel)
theorem cv_L_148 : CV RL 148 12 yX12_coefficient cX12_coefficient 8 (some .long) 1 := ⟨⟨TX12, cls_X12⟩, tt_of 1924 (by decide +kernel) rfl, mi_X12_coefficient, me_X12_coefficient, mn_X12_coefficient, mc_X12_coefficient, md_X12_coefficient, by decide⟩
theorem mc_X12_greatestHeight : Cond.code yX12_greatestHeight cX12_greatestHeight 3 (some .int) ∈ TT := tt_of 1931 (by decide +kernel) rfl
theorem mn_X12_greatestHeight : Cond.initialized (yX12_greatestHeight).cls ∈ TT := tt_of 163 (by decide +kernel) rfl
theorem mi_X12_greatestHeight : Cond.instanceMethod yX12_greatestHeight ∈ TT := tt_of 1930 (by decide +kernel) rfl
theorem me_X12_greatestHeight : Cond.selects (yX12_greatestHeight).cls yX12_greatestHeight yX12_greatestHeight ∈ TT := tt_of 140 (by decide +kernel) rfl
theorem md_X12_greatestHeight : (yX12_greatestHeight).cls ≠ "java/lang/invoke/MethodHandle" ∧ (yX12_greatestHeight).cls ≠ "java/lang/invoke/VarHandle" ∧ (parseMethodDescriptor (yX12_greatestHeight).desc).map (fun d => d.parameters.length) = some 0 := (by decide +kernel)
theorem cv_X12_485 : CV RX12 485 12 yX12_greatestHeight cX12_greatestHeight 3 (some .int) 0 := ⟨⟨TX12, cls_X12⟩, tt_of 1928 (by decide +kernel) rfl, mi_X12_greatestHeight, me_X12_greatestHeight, mn_X12_greatestHeight, mc_X12_greatestHeight, md_X12_greatestHeight, by decide⟩
theorem mc_X12_isGraded : Cond.code yX12_isGraded cX12_isGraded 3 (some .boolean) ∈ TT := tt_of 1935 (by decide +kernel) rfl
theorem mn_X12_isGraded : Cond.initialized (yX12_isGraded).cls ∈ TT := tt_of 163 (by decide +kernel) rfl
theorem mi_X12_isGraded : Cond.instanceMethod yX12_isGraded ∈ TT := tt_of 1934 (by decide +kernel) rfl
theorem me_X12_isGraded : Cond.selects (yX12_isGraded).cls yX12_isGraded yX12_isGraded ∈ TT := tt_of 141 (by decide +kernel) rfl
theorem md_X12_isGraded : (yX12_isGraded).cls ≠ "java/lang/invoke/MethodHandle" ∧ (yX12_isGraded).cls ≠ "java/lang/invoke/VarHandle" ∧ (parseMethodDescriptor (yX12_isGraded).desc).map (fun d => d.parameters.length) = some 0 := (by decide +kernel)
theorem cv_X12_488 : CV RX12 488 12 yX12_isGraded cX12_isGraded 3 (some .boolean) 0 := ⟨⟨TX12, cls_X12⟩, tt_of 1932 (by decide +kernel) rfl, mi_X12_isGraded, me_X12_isGraded, mn_X12_isGraded, mc_X12_isGraded, md_X12_isGraded, by decide⟩
theorem mc_X12_count : Cond.code yX12_count cX12_count 2 (some .int) ∈ TT := tt_of 1939 (by decide +kernel) rfl
theorem mn_X12_count : Cond.initialized (yX12_count).cls ∈ TT := tt_of 163 (by decide +kernel) rfl
theorem mi_X12_count : Cond.instanceMethod yX12_count ∈ TT := tt_of 1937 (by decide +kernel) rfl
theorem me_X12_count : Cond.selects (yX12_count).cls yX12_count yX12_count ∈ TT := tt_of 1938 (by decide +kernel) rfl
theorem md_X12_count : (yX12_count).cls ≠ "java/lang/invoke/MethodHandle" ∧ (yX12_count).cls ≠ "java/lang/invoke/VarHandle" ∧ (parseMethodDescriptor (yX12_count).desc).map (fun d => d.parameters.length) = some 1 := (by decide +kernel)
theorem cv_L_152 : CV RL 152 12 yX12_count cX12_count 2 (some .int) 1 := ⟨⟨TX12, cls_X12⟩, tt_of 1936 (by decide +kernel) rfl, mi_X12_count, me_X12_count, mn_X12_count, mc_X12_count, md_X12_count, by decide⟩
theorem mc_X12_pairsBelow : Cond.code yX12_pairsBelow cX12_pairsBelow 3 (some .int) ∈ TT := tt_of 1943 (by decide +kernel) rfl
theorem mn_X12_pairsBelow : Cond.initialized (yX12_pairsBelow).cls ∈ TT := tt_of 163 (by decide +kernel) rfl
theorem mi_X12_pairsBelow : Cond.instanceMethod yX12_pairsBelow ∈ TT := tt_of 1942 (by decide +kernel) rfl
theorem me_X12_pairsBelow : Cond.selects (yX12_pairsBelow).cls yX12_pairsBelow yX12_pairsBelow ∈ TT := tt_of 142 (by decide +kernel) rfl
theorem md_X12_pairsBelow : (yX12_pairsBelow).cls ≠ "java/lang/invoke/MethodHandle" ∧ (yX12_pairsBelow).cls ≠ "java/lang/invoke/VarHandle" ∧ (parseMethodDescriptor (yX12_pairsBelow).desc).map (fun d => d.parameters.length) = some 0 := (by decide +kernel)
theorem cv_X12_494 : CV RX12 494 12 yX12_pairsBelow cX12_pairsBelow 3 (some .int) 0 := ⟨⟨TX12, cls_X12⟩, tt_of 1940 (by decide +kernel) rfl, mi_X12_pairsBelow, me_X12_pairsBelow, mn_X12_pairsBelow, mc_X12_pairsBelow, md_X12_pairsBelow, by decide⟩
theorem mc_X12_areAllJoined : Cond.code yX12_areAllJoined cX12_areAllJoined 3 (some .boolean) ∈ TT := tt_of 1947 (by decide +kernel) rfl
theorem mn_X12_areAllJoined : Cond.initialized (yX12_areAllJoined).cls ∈ TT := tt_of 163 (by decide +kernel) rfl
theorem mi_X12_areAllJoined : Cond.instanceMethod yX12_areAllJoined ∈ TT := tt_of 1946 (by decide +kernel) rfl
theorem me_X12_areAllJoined : Cond.selects (yX12_areAllJoined).cls yX12_areAllJoined yX12_areAllJoined ∈ TT := tt_of 143 (by decide +kernel) rfl
theorem md_X12_areAllJoined : (yX12_areAllJoined).cls ≠ "java/lang/invoke/MethodHandle" ∧ (yX12_areAllJoined).cls ≠ "java/lang/invoke/VarHandle" ∧ (parseMethodDescriptor (yX12_areAllJoined).desc).map (fun d => d.parameters.length) = some 0 := (by decide +kernel)
theorem cv_X12_497 : CV RX12 497 12 yX12_areAllJoined cX12_areAllJoined 3 (some .boolean) 0 := ⟨⟨TX12, cls_X12⟩, tt_of 1944 (by decide +kernel) rfl, mi_X12_areAllJoined, me_X12_areAllJoined, mn_X12_areAllJoined, mc_X12_areAllJoined, md_X12_areAllJoined, by decide⟩
theorem mc_X12_typesNow : Cond.code yX12_typesNow cX12_typesNow 1 (some .int) ∈ TT := tt_of 1951 (by decide +kernel) rfl
theorem mn_X12_typesNow : Cond.initialized (yX12_typesNow).cls ∈ TT := tt_of 163 (by decide +kernel) rfl
theorem mi_X12_typesNow : Cond.instanceMethod yX12_typesNow ∈ TT := tt_of 1950 (by decide +kernel) rfl
theorem me_X12_typesNow : Cond.selects (yX12_typesNow).cls yX12_typesNow yX12_typesNow ∈ TT := tt_of 144 (by decide +kernel) rfl
theorem md_X12_typesNow : (yX12_typesNow).cls ≠ "java/lang/invoke/MethodHandle" ∧ (yX12_typesNow).cls ≠ "java/lang/invoke/VarHandle" ∧ (parseMethodDescriptor (yX12_typesNow).desc).map (fun d => d.parameters.length) = some 0 := (by decide +kernel)
theorem cv_X12_500 : CV RX12 500 12 yX12_typesNow cX12_typesNow 1 (some .int) 0 := ⟨⟨TX12, cls_X12⟩, tt_of 1948 (by decide +kernel) rfl, mi_X12_typesNow, me_X12_typesNow, mn_X12_typesNow, mc_X12_typesNow, md_X12_typesNow, by decide⟩
theorem mc_X12_keptSet : Cond.code yX12_keptSet cX12_keptSet 3 (some .int) ∈ TT := tt_of 1955 (by decide +kernel) rfl
theorem mn_X12_keptSet : Cond.initialized (yX12_keptSet).cls ∈ TT := tt_of 163 (by decide +kernel) rfl
theorem mi_X12_keptSet : Cond.instanceMethod yX12_keptSet ∈ TT := tt_of 1954 (by decide +kernel) rfl
theorem me_X12_keptSet : Cond.selects (yX12_keptSet).cls yX12_keptSet yX12_keptSet ∈ TT := tt_of 145 (by decide +kernel) rfl
theorem md_X12_keptSet : (yX12_keptSet).cls ≠ "java/lang/invoke/MethodHandle" ∧ (yX12_keptSet).cls ≠ "java/lang/invoke/VarHandle" ∧ (parseMethodDescriptor (yX12_keptSet).desc).map (fun d => d.parameters.length) = some 0 := (by decide +kernel)
theorem cv_X12_503 : CV RX12 503 12 yX12_keptSet cX12_keptSet 3 (some .int) 0 := ⟨⟨TX12, cls_X12⟩, tt_of 1952 (by decide +kernel) rfl, mi_X12_keptSet, me_X12_keptSet, mn_X12_keptSet, mc_X12_keptSet, md_X12_keptSet, by decide⟩
theorem mc_X12_ends : Cond.code yX12_ends cX12_ends 4 (some .int) ∈ TT := tt_of 1959 (by decide +kernel) rfl
theorem mn_X12_ends : Cond.initialized (yX12_ends).cls ∈ TT := tt_of 163 (by decide +kernel) rfl
theorem mi_X12_ends : Cond.instanceMethod yX12_ends ∈ TT := tt_of 1958 (by decide +kernel) rfl
theorem me_X12_ends : Cond.selects (yX12_ends).cls yX12_ends yX12_ends ∈ TT := tt_of 146 (by decide +kernel) rfl
theorem md_X12_ends : (yX12_ends).cls ≠ "java/lang/invoke/MethodHandle" ∧ (yX12_ends).cls ≠ "java/lang/invoke/VarHandle" ∧ (parseMethodDescriptor (yX12_ends).desc).map (fun d => d.parameters.length) = some 1 := (by decide +kernel)
theorem cv_X12_506 : CV RX12 506 12 yX12_ends cX12_ends 4 (some .int) 1 := ⟨⟨TX12, cls_X12⟩, tt_of 1956 (by decide +kernel) rfl, mi_X12_ends, me_X12_ends, mn_X12_ends, mc_X12_ends, md_X12_ends, by decide⟩
theorem mc_X12_reducedOnes : Cond.code yX12_reducedOnes cX12_reducedOnes 3 (some .int) ∈ TT := tt_of 1963 (by decide +kernel) rfl
theorem mn_X12_reducedOnes : Cond.initialized (yX12_reducedOnes).cls ∈ TT := tt_of 163 (by decide +kernel) rfl
theorem mi_X12_reducedOnes : Cond.instanceMethod yX12_reducedOnes ∈ TT := tt_of 1962 (by decide +kernel) rfl
theorem me_X12_reducedOnes : Cond.selects (yX12_reducedOnes).cls yX12_reducedOnes yX12_reducedOnes ∈ TT := tt_of 147 (by decide +kernel) rfl
theorem md_X12_reducedOnes : (yX12_reducedOnes).cls ≠ "java/lang/invoke/MethodHandle" ∧ (yX12_reducedOnes).cls ≠ "java/lang/invoke/VarHandle" ∧ (parseMethodDescriptor (yX12_reducedOnes).desc).map (fun d => d.parameters.length) = some 0 := (by decide +kernel)
theorem cv_X12_510 : CV RX12 510 12 yX12_reducedOnes cX12_reducedOnes 3 (some .int) 0 := ⟨⟨TX12, cls_X12⟩, tt_of 1960 (by decide +kernel) rfl, mi_X12_reducedOnes, me_X12_reducedOnes, mn_X12_reducedOnes, mc_X12_reducedOnes, md_X12_reducedOnes, by decide⟩
theorem mc_X12_widest : Cond.code yX12_widest cX12_widest 3 (some .int) ∈ TT := tt_of 1967 (by decide +kernel) rfl
theorem mn_X12_widest : Cond.initialized (yX12_widest).cls ∈ TT := tt_of 163 (by decide +kernel) rfl
theorem mi_X12_widest : Cond.instanceMethod yX12_widest ∈ TT := tt_of 1966 (by decide +kernel) rfl
theorem me_X12_widest : Cond.selects (yX12_widest).cls yX12_widest yX12_widest ∈ TT := tt_of 148 (by decide +kernel) rfl
theorem md_X12_widest : (yX12_widest).cls ≠ "java/lang/invoke/MethodHandle" ∧ (yX12_widest).cls ≠ "java/lang/invoke/VarHandle" ∧ (parseMethodDescriptor (yX12_widest).desc).map (fun d => d.parameters.length) = some 0 := (by decide +kernel)
theorem cv_X12_513 : CV RX12 513 12 yX12_widest cX12_widest 3 (some .int) 0 := ⟨⟨TX12, cls_X12⟩, tt_of 1964 (by decide +kernel) rfl, mi_X12_widest, me_X12_widest, mn_X12_widest, mc_X12_widest, md_X12_widest, by decide⟩
theorem mc_X12_isApart : Cond.code yX12_isApart cX12_isApart 3 (some .boolean) ∈ TT := tt_of 1971 (by decide +kernel) rfl
theorem mn_X12_isApart : Cond.initialized (yX12_isApart).cls ∈ TT := tt_of 163 (by decide +kernel) rfl
theorem mi_X12_isApart : Cond.instanceMethod yX12_isApart ∈ TT := tt_of 1970 (by decide +kernel) rfl
theorem me_X12_isApart : Cond.selects (yX12_isApart).cls yX12_isApart yX12_isApart ∈ TT := tt_of 149 (by decide +kernel) rfl
theorem md_X12_isApart : (yX12_isApart).cls ≠ "java/lang/invoke/MethodHandle" ∧ (yX12_isApart).cls ≠ "java/lang/invoke/VarHandle" ∧ (parseMethodDescriptor (yX12_isApart).desc).map (fun d => d.parameters.length) = some 1 := (by decide +kernel)
theorem cv_X12_491 : CV RX12 491 12 yX12_isApart cX12_isApart 3 (some .boolean) 1 := ⟨⟨TX12, cls_X12⟩, tt_of 1968 (by decide +kernel) rfl, mi_X12_isApart, me_X12_isApart, mn_X12_isApart, mc_X12_isApart, md_X12_isApart, by decide⟩
theorem kc_X6_97 : Cond.constant RX6 97 100000 ∈ TT := tt_of 609 (by decide +kernel) rfl
theorem kc_J6_265 : Cond.constant RJ6 265 1431655765 ∈ TT := tt_of 757 (by decide +kernel) rfl
theorem kc_J6_266 : Cond.constant RJ6 266 858993459 ∈ TT := tt_of 758 (by decide +kernel) rfl
theorem kc_J6_267 : Cond.constant RJ6 267 252645135 ∈ TT := tt_of 759 (by decide +kernel) rfl
theorem kc_X9_25 : Cond.constantLong RX9 25 (-1) ∈ TT := tt_of 931 (by decide +kernel) rfl
theorem kc_X9_29 : Cond.constantLong RX9 29 (-9223372036854775808) ∈ TT := tt_of 932 (by decide +kernel) rfl
theorem kc_X0_112 : Cond.constantLong RX0 112 (-1) ∈ TT := tt_of 954 (by decide +kernel) rfl
theorem kc_X11_281 : Cond.constantLong RX11 281 (-9223372036854775808) ∈ TT := tt_of 979 (by decide +kernel) rfl
theorem kc_X11_327 : Cond.constantLong RX11 327 (-1) ∈ TT := tt_of 1099 (by decide +kernel) rfl
theorem kc_X12_53 : Cond.constant RX12 53 65536 ∈ TT := tt_of 1287 (by decide +kernel) rfl
theorem kc_X12_118 : Cond.constantLong RX12 118 (-1) ∈ TT := tt_of 1292 (by decide +kernel) rfl
theorem kc_X12_153 : Cond.constantLong RX12 153 97 ∈ TT := tt_of 1451 (by decide +kernel) rfl
theorem kc_X12_155 : Cond.constantLong RX12 155 122 ∈ TT := tt_of 1452 (by decide +kernel) rfl
theorem kc_X12_160 : Cond.constantLong RX12 160 48 ∈ TT := tt_of 1461 (by decide +kernel) rfl
theorem kc_X12_162 : Cond.constantLong RX12 162 57 ∈ TT := tt_of 1462 (by decide +kernel) rfl
theorem kc_X12_245 : Cond.constantLong RX12 245 5 ∈ TT := tt_of 1557 (by decide +kernel) rfl
theorem kc_X12_274 : Cond.constantLong RX12 274 3 ∈ TT := tt_of 1593 (by decide +kernel) rfl
theorem kc_X12_293 : Cond.constantLong RX12 293 6 ∈ TT := tt_of 1594 (by decide +kernel) rfl
theorem kc_X12_269 : Cond.constantLong RX12 269 (-9223372036854775808) ∈ TT := tt_of 1658 (by decide +kernel) rfl
theorem kc_X12_330 : Cond.constantLong RX12 330 20 ∈ TT := tt_of 1671 (by decide +kernel) rfl
theorem kc_X12_353 : Cond.constantLong RX12 353 2 ∈ TT := tt_of 1716 (by decide +kernel) rfl
theorem kc_X12_368 : Cond.constantLong RX12 368 (-2) ∈ TT := tt_of 1737 (by decide +kernel) rfl
theorem kc_X12_370 : Cond.constantLong RX12 370 15 ∈ TT := tt_of 1738 (by decide +kernel) rfl
theorem kc_X12_400 : Cond.constantLong RX12 400 30 ∈ TT := tt_of 1791 (by decide +kernel) rfl
theorem kc_L_59 : Cond.constantLong RL 59 4294967295 ∈ TT := tt_of 1972 (by decide +kernel) rfl
