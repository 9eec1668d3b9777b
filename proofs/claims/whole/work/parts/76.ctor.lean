/-! OBJECTS THAT ARE MADE -/
theorem ac_int : Cond.arrayClass .int ∈ TT := tt_of 246 (by decide +kernel) rfl
theorem ac_byte : Cond.arrayClass .byte ∈ TT := tt_of 195 (by decide +kernel) rfl
theorem oi_m : Cond.instanceMethod Lib.objectInit ∈ TT := tt_of 178 (by decide +kernel) rfl
theorem Mx.ofI {l : Launch} {D : va_G} {B : Heap} {y : MethodName} {bytes : ByteArray} {maxL : Nat} {ret : Option FieldType} {d mc ms : Nat} {av : List Value} {G : amG} {I : amI} {L : amL} {post : amP} {lv : List (Nat × Value)} (hy : plainName y.cls = true) (hs : Nat.ble (lg_sl av).length maxL = true) (hlv : lv_args 0 av = lv)
    (body : ∀ z : amZ, zL z = l → zD z = D → zB z = B → (zY z).name = y.name → Go z bytes y.cls maxL ret d mc ms post → Wx z 0 0 0 lv [] G I L) : Mx l D B y bytes maxL ret d mc ms av G I L post := by
  refine Met.ofW (cc := bytes) (maxL := maxL) (ret := ret) hy rfl ?_
  intro p e s m args below meth c s₁ X hml hv
  obtain ⟨rfl, hW, hK⟩ := hv
  have hl := lv_entry av (n := maxL) (Nat.le_of_ble_eq_true hs)
  rw [lg_entry_eq]
  rw [hlv] at hl
  have h := body (p, l, e, rk d mc ms, s, m, av.toArray, below, meth, c, D, B, MQ below (am_Qc D B post) av.toArray s mc ms (am_fr B)) rfl rfl rfl (name_of_methodNamed X.named X.method).1
    ⟨⟨X.exec, X.bytes, hml, findClass_of_methodNamed X.named, fun w hw => atoms_spec (ws := Cond.code y bytes maxL ret :: TT) X.pre w (List.mem_cons_of_mem _ hw), hK, by rw [hW.1]; exact Nat.le_add_right _ _⟩, rfl, X.returns, X.notSynchronized, rfl⟩
  exact h _ s.heap [] (by show lv_has _ c.maxLocals lv; rw [hml]; exact hl) hW (fun q hq => by cases hq)
def gPut (G : amG) (p k r : Nat) : amG := setR G p (va_up (gR G p) k (some r))
def gArr (G : amG) (p k kd len : Nat) : amG := gPut (gNew G kd len) p k (gN G)
def zI (I : amI) (p : Nat) : amI := setI I p (fun _ => 0)
def zL0 (L : amL) (p : Nat) : amL := setL L p (fun _ => 0)
section GA
variable {G : amG} {p q k kd len r j : Nat}
theorem gArr_n (h : q < gN G) : q < gN (gArr G p k kd len) := Nat.lt_succ_of_lt h
theorem gArr_k (h : q < gN G) : gK (gArr G p k kd len) q = gK G q := gNew_ok (len := len) h
theorem gPut_r : gR (gPut G p k r) p k = some r := by rw [gPut, setR_s]; exact if_pos rfl
theorem gPut_rn (h : j ≠ k) : gR (gPut G p k r) p j = gR G p j := by rw [gPut, setR_s]; exact if_neg h
theorem gPut_ro (h : q ≠ p) : gR (gPut G p k r) q j = gR G q j := by rw [gPut, setR_g h]
theorem gArr_r : gR (gArr G p k kd len) p k = some (gN G) := gPut_r
theorem gArr_rn (h : j ≠ k) (hp : p < gN G) : gR (gArr G p k kd len) p j = gR G p j := by rw [gArr, gPut_rn h, gNew_or hp]
theorem gArr_ro (h : q ≠ p) (hq : q < gN G) : gR (gArr G p k kd len) q j = gR G q j := by rw [gArr, gPut_ro h, gNew_or hq]
end GA
section CT
variable {z : amZ} {cc : ByteArray} {own : String} {nL ce sl pc : Nat} {lv : List (Nat × Value)} {rest : List Value} {G : amG} {I : amI} {L : amL}
theorem am_mkI (hz : Ok z cc own nL) (hin2 : (zY z).name = "<init>") {index ci k p len : Nat} {n : Int32} {C : String} {T : u_T} (hcc : CLs ci C T) (hkn : k < nF ci) (hlk : Cond.fieldLink own index (T k).1 (T k).2.1 (T k).2.2.1 ∈ TT) (hfin : (T k).2.2.2 = true) (hdecl : (T k).1 = own) (hp : p < gN G) (hk : gK G p = ci) (hn : ∀ x, narrow (tyC ci k) (.ref x) = .ref x) (hft : ∀ x, fits (tyC ci k) (.ref x) = true) (hv : ∀ (G' : amG) (I' : amI) (L' : amL), am_fv (zB z).size G' I' L' p k (tyC ci k) = va_rf ((gR G' p k).map ((zB z).size + ·))) (h0 : ¬ n < 0) (hN : n.toNatClampNeg = len) (hb4 : len * componentBytes .int ≤ 536870912) (hr1 : ce + 1 ≤ (zR z).cells) (hr2 : sl + len ≤ (zR z).slots) (hd1 : decode cc pc = .ok (.newarray .int, 2)) (hd2 : decode cc (pc + 2) = .ok (.putfield index, 3)) (kk : Wx z (ce + 1) (sl + len) (pc + 5) lv rest (gArr G p k 50 len) (zI I (gN G)) (zL0 L (gN G))) : Wx z ce sl pc lv (.int n :: .ref ((zB z).size + p) :: rest) G I L :=
  am_newI hz ac_int h0 hN hb4 hr1 hr2 hd1 (am_putF hz hin2 hcc hkn hlk hfin hdecl (Nat.lt_succ_of_lt hp) ((gNew_ok hp).trans hk) hn hft (fun G' => hv G' _ _) hd2 kk)
theorem am_mkB (hz : Ok z cc own nL) (hin2 : (zY z).name = "<init>") {index ci k p len : Nat} {n : Int32} {C : String} {T : u_T} (hcc : CLs ci C T) (hkn : k < nF ci) (hlk : Cond.fieldLink own index (T k).1 (T k).2.1 (T k).2.2.1 ∈ TT) (hfin : (T k).2.2.2 = true) (hdecl : (T k).1 = own) (hp : p < gN G) (hk : gK G p = ci) (hn : ∀ x, narrow (tyC ci k) (.ref x) = .ref x) (hft : ∀ x, fits (tyC ci k) (.ref x) = true) (hv : ∀ (G' : amG) (I' : amI) (L' : amL), am_fv (zB z).size G' I' L' p k (tyC ci k) = va_rf ((gR G' p k).map ((zB z).size + ·))) (h0 : ¬ n < 0) (hN : n.toNatClampNeg = len) (hb4 : len * componentBytes .byte ≤ 536870912) (hr1 : ce + 1 ≤ (zR z).cells) (hr2 : sl + len ≤ (zR z).slots) (hd1 : decode cc pc = .ok (.newarray .byte, 2)) (hd2 : decode cc (pc + 2) = .ok (.putfield index, 3)) (kk : Wx z (ce + 1) (sl + len) (pc + 5) lv rest (gArr G p k 51 len) (zI I (gN G)) (zL0 L (gN G))) : Wx z ce sl pc lv (.int n :: .ref ((zB z).size + p) :: rest) G I L :=
  am_newB hz ac_byte h0 hN hb4 hr1 hr2 hd1 (am_putF hz hin2 hcc hkn hlk hfin hdecl (Nat.lt_succ_of_lt hp) ((gNew_ok hp).trans hk) hn hft (fun G' => hv G' _ _) hd2 kk)
theorem am_mkL (hz : Ok z cc own nL) (hin2 : (zY z).name = "<init>") {index ci k p len : Nat} {n : Int32} {C : String} {T : u_T} (hcc : CLs ci C T) (hkn : k < nF ci) (hlk : Cond.fieldLink own index (T k).1 (T k).2.1 (T k).2.2.1 ∈ TT) (hfin : (T k).2.2.2 = true) (hdecl : (T k).1 = own) (hp : p < gN G) (hk : gK G p = ci) (hn : ∀ x, narrow (tyC ci k) (.ref x) = .ref x) (hft : ∀ x, fits (tyC ci k) (.ref x) = true) (hv : ∀ (G' : amG) (I' : amI) (L' : amL), am_fv (zB z).size G' I' L' p k (tyC ci k) = va_rf ((gR G' p k).map ((zB z).size + ·))) (h0 : ¬ n < 0) (hN : n.toNatClampNeg = len) (hb4 : len * componentBytes .long ≤ 536870912) (hr1 : ce + 1 ≤ (zR z).cells) (hr2 : sl + len ≤ (zR z).slots) (hd1 : decode cc pc = .ok (.newarray .long, 2)) (hd2 : decode cc (pc + 2) = .ok (.putfield index, 3)) (kk : Wx z (ce + 1) (sl + len) (pc + 5) lv rest (gArr G p k 52 len) (zI I (gN G)) (zL0 L (gN G))) : Wx z ce sl pc lv (.int n :: .ref ((zB z).size + p) :: rest) G I L :=
  am_newL hz ac_long h0 hN hb4 hr1 hr2 hd1 (am_putF hz hin2 hcc hkn hlk hfin hdecl (Nat.lt_succ_of_lt hp) ((gNew_ok hp).trans hk) hn hft (fun G' => hv G' _ _) hd2 kk)
theorem am_mkLn (hz : Ok z cc own nL) {index ci k p len : Nat} {n : Int32} (f : FL own index ci k false) (hp : p < gN G) (hk : gK G p = ci) (hn : ∀ x, narrow (tyC ci k) (.ref x) = .ref x) (hft : ∀ x, fits (tyC ci k) (.ref x) = true) (hv : ∀ (G' : amG) (I' : amI) (L' : amL), am_fv (zB z).size G' I' L' p k (tyC ci k) = va_rf ((gR G' p k).map ((zB z).size + ·))) (h0 : ¬ n < 0) (hN : n.toNatClampNeg = len) (hb4 : len * componentBytes .long ≤ 536870912) (hr1 : ce + 1 ≤ (zR z).cells) (hr2 : sl + len ≤ (zR z).slots) (hd1 : decode cc pc = .ok (.newarray .long, 2)) (hd2 : decode cc (pc + 2) = .ok (.putfield index, 3)) (kk : Wx z (ce + 1) (sl + len) (pc + 5) lv rest (gArr G p k 52 len) (zI I (gN G)) (zL0 L (gN G))) : Wx z ce sl pc lv (.int n :: .ref ((zB z).size + p) :: rest) G I L :=
  am_newL hz ac_long h0 hN hb4 hr1 hr2 hd1 (am_putR hz f (Nat.lt_succ_of_lt hp) ((gNew_ok hp).trans hk) hn hft (fun G' => hv G' _ _) hd2 kk)
theorem am_mkR (hz : Ok z cc own nL) (hin2 : (zY z).name = "<init>") {index ix2 ci k p len t kd : Nat} {n : Int32} {C E : String} {T : u_T} (ht : (am_tys (zD z))[t]? = some ((zD z).1 kd, .object E)) (hkd : 52 < kd) (hover : va_AO E (zS z)) (h1 : Cond.classLink own ix2 E ∈ TT) (hcc : CLs ci C T) (hkn : k < nF ci) (hlk : Cond.fieldLink own index (T k).1 (T k).2.1 (T k).2.2.1 ∈ TT) (hfin : (T k).2.2.2 = true) (hdecl : (T k).1 = own) (hp : p < gN G) (hk : gK G p = ci) (hn : ∀ x, narrow (tyC ci k) (.ref x) = .ref x) (hft : ∀ x, fits (tyC ci k) (.ref x) = true) (hv : ∀ (G' : amG) (I' : amI) (L' : amL), am_fv (zB z).size G' I' L' p k (tyC ci k) = va_rf ((gR G' p k).map ((zB z).size + ·))) (h0 : ¬ n < 0) (hN : n.toNatClampNeg = len) (hb4 : len * 4 ≤ 536870912) (hr1 : ce + 1 ≤ (zR z).cells) (hr2 : sl + len ≤ (zR z).slots) (hd1 : decode cc pc = .ok (.anewarray ix2, 3)) (hd2 : decode cc (pc + 3) = .ok (.putfield index, 3)) (kk : Wx z (ce + 1) (sl + len) (pc + 6) lv rest (gArr G p k kd len) (zI I (gN G)) (zL0 L (gN G))) : Wx z ce sl pc lv (.int n :: .ref ((zB z).size + p) :: rest) G I L :=
  am_newR hz ht hkd hover h1 h0 hN hb4 hr1 hr2 hd1 (am_putF hz hin2 hcc hkn hlk hfin hdecl (Nat.lt_succ_of_lt hp) ((gNew_ok hp).trans hk) hn hft (fun G' => hv G' _ _) hd2 kk)
end CT
