/-! WHAT IS GIVEN AT THE START -/
def nx1 : Cond := Jvm.Cond.and given_1 narrow_1
def tmW (i : Nat) : Term := Term.string RX6 ([75, 77, 79, 81, 83].getD i 0)
theorem mw_ex : ∀ i, i < 5 → Cond.exactly (tmW i) "java/lang/String" ∈ flatC nx1 := by decide +kernel
theorem mw_co : ∀ i, i < 5 → Cond.eq (.field (tmW i) "java/lang/String" "coder" "B") (.int 0) ∈ flatC nx1 := by decide +kernel
theorem mw_ar : ∀ i, i < 5 → Cond.arrayOf (.field (tmW i) "java/lang/String" "value" "[B") .byte ∈ flatC nx1 := by decide +kernel
theorem mw_le : ∀ i, i < 5 → Cond.eq (.length (.field (tmW i) "java/lang/String" "value" "[B")) (.int (Int32.ofNat (lenW.getD i 0))) ∈ flatC nx1 := by decide +kernel
theorem mw_el : ∀ i, i < 5 → ∀ j, j < lenW.getD i 0 → Cond.eq (.elem (.field (tmW i) "java/lang/String" "value" "[B") (.int (Int32.ofNat j))) (.int ((bytW.getD i []).getD j 0)) ∈ flatC nx1 := by decide +kernel
theorem mw_ne : ∀ i, i < 5 → ∀ j, j < 5 → i ≠ j → Cond.not (Cond.eq (tmW i) (tmW j)) ∈ flatC nx1 ∨ Cond.not (Cond.eq (tmW j) (tmW i)) ∈ flatC nx1 := by decide +kernel
def tmV (i : Nat) : Term := Term.string RX12 ([194, 204, 209, 214, 219].getD i 0)
theorem mw_eq : ∀ i, i < 5 → Cond.eq (tmW i) (tmV i) ∈ flatC nx1 := by decide +kernel
theorem mw_cs : Cond.eq (.static "java/lang/String" "COMPACT_STRINGS" "Z") (.int 1) ∈ flatC nx1 := by decide +kernel
theorem mw_sf : Cond.isRef (.static "jdk/internal/util/Preconditions" "SIOOBE_FORMATTER" "Ljava/util/function/BiFunction;") ∈ flatC nx1 := by decide +kernel
theorem mw_rf : ∀ q ∈ ldW, Cond.stringRef q.1 q.2.1 q.2.2.1 ∈ lw_tbl := by decide +kernel
theorem mw_tm : ∀ q ∈ ldW, q.2.2.2 < 5 ∧ (Term.string q.1 q.2.1 = tmW q.2.2.2 ∨ Term.string q.1 q.2.1 = tmV q.2.2.2) := by decide +kernel
theorem vw_len : ∀ k r, vwCl[k]? = some r → k < 13 := fun k r h => (List.getElem?_eq_some_iff.mp h).1
section ST
variable {s : State} {b : Nat}
theorem ar_ex (hts : ∀ w ∈ lw_tbl, w.before #[Value.ref b] s = true) {ty : FieldType} (h : Cond.arrayClass ty ∈ lw_tbl) (hty : ∀ c, va_RA s c ty = (s.vm.findClass ("[" ++ ty.toString) = some c)) : ∃ c, ArrOfT s c ty ∧ va_RA s c ty := by
  obtain ⟨c, k, comp, h1, h2, h3⟩ := Cond.arrayClass_spec (hts _ h)
  exact ⟨c, fun n z => ⟨(fun k h => by cases h), k, h2, comp, h3⟩, by rw [hty]; exact h1⟩
theorem ao_ex (hts : ∀ w ∈ lw_tbl, w.before #[Value.ref b] s = true) {C : String} (h : Cond.arrayOver (.object C) ∈ lw_tbl) : ∃ c, ArrOfT s c (.object C) ∧ va_RA s c (.object C) := by
  obtain ⟨comp, c, k, h1, h2, h3, h4, h5⟩ := Cond.arrayOver_spec (hts _ h)
  exact ⟨c, fun n z => ⟨(fun k h => by cases h), k, h3, comp, h4⟩, k, comp, h3, h4, h1, h5⟩
theorem cl_ex (hts : ∀ w ∈ lw_tbl, w.before #[Value.ref b] s = true) : ∃ f : Nat → ClassId × (Nat → Nat), ∀ k r, vwCl[k]? = some r → u_Kn s r.1 r.2.1 r.2.2 (f k).1 (f k).2 := by
  have htt : ∀ w ∈ TT, w.before #[Value.ref b] s = true := fun w hw => hts w (List.mem_filter.mp hw).1
  have one : ∀ {ci : Nat} {C : String} {T : u_T}, CLs ci C T → (Cond.instantiable C (nF ci)).before #[Value.ref b] s = true → ∃ q : ClassId × (Nat → Nat), ∀ r, vwCl[ci]? = some r → u_Kn s r.1 r.2.1 r.2.2 q.1 q.2 := by
    intro ci C T hc hi
    obtain ⟨cC, iS, h⟩ := u_known (n := nF ci) htt hc.2.2.1 hi
    refine ⟨(cC, iS), fun r hr => ?_⟩
    rw [hc.2.1] at hr
    cases hr
    exact h
  have all : ∀ k : Nat, ∃ q : ClassId × (Nat → Nat), ∀ r : vw_C, vwCl[k]? = some r → u_Kn s r.1 r.2.1 r.2.2 q.1 q.2 := by
    intro k
    match k with
    | 0 => exact one cls_X0 (hts _ (List.mem_of_getElem? (i := 291) (by decide +kernel)))
    | 1 => exact one cls_X1 (hts _ (List.mem_of_getElem? (i := 433) (by decide +kernel)))
    | 2 => exact one cls_X2 (hts _ (List.mem_of_getElem? (i := 354) (by decide +kernel)))
    | 3 => exact one cls_X3 (hts _ (List.mem_of_getElem? (i := 318) (by decide +kernel)))
    | 4 => exact one cls_X4 (hts _ (List.mem_of_getElem? (i := 197) (by decide +kernel)))
    | 5 => exact one cls_X5 (hts _ (List.mem_of_getElem? (i := 338) (by decide +kernel)))
    | 6 => exact one cls_X6 (hts _ (List.mem_of_getElem? (i := 248) (by decide +kernel)))
    | 7 => exact one cls_X7 (hts _ (List.mem_of_getElem? (i := 402) (by decide +kernel)))
    | 8 => exact one cls_X8 (hts _ (List.mem_of_getElem? (i := 701) (by decide +kernel)))
    | 9 => exact one cls_X9 (hts _ (List.mem_of_getElem? (i := 274) (by decide +kernel)))
    | 10 => exact one cls_X10 (hts _ (List.mem_of_getElem? (i := 181) (by decide +kernel)))
    | 11 => exact one cls_X11 (hts _ (List.mem_of_getElem? (i := 173) (by decide +kernel)))
    | 12 => exact one cls_X12 (hts _ (List.mem_of_getElem? (i := 1282) (by decide +kernel)))
    | k + 13 => exact ⟨(0, fun _ => 0), fun r hr => absurd (vw_len _ r hr) (by omega)⟩
  obtain ⟨f, hf⟩ := Classical.axiomOfChoice all
  exact ⟨f, hf⟩
theorem K_ex (hts : ∀ w ∈ lw_tbl, w.before #[Value.ref b] s = true) (hgv : (Jvm.Cond.and given_1 narrow_1).before #[Value.ref b] s = true) : ∃ D : va_G, am_K D s.heap s := by
  have hs := flat_of_before (args := #[Value.ref b]) (s := s) nx1 hgv
  have hA : ∀ a : Nat, a < s.heap.size → ¬ s.heap.size ≤ a := fun a h => Nat.not_le.mpr h
  obtain ⟨f, hf⟩ := cl_ex hts
  obtain ⟨c0, i1, i2⟩ := ar_ex (ty := .int) hts (List.mem_of_getElem? (i := 246) (by decide +kernel)) (fun _ => rfl)
  obtain ⟨c1, b1, b2⟩ := ar_ex (ty := .byte) hts (List.mem_of_getElem? (i := 195) (by decide +kernel)) (fun _ => rfl)
  obtain ⟨c2, l1, l2⟩ := ar_ex (ty := .long) hts (List.mem_of_getElem? (i := 316) (by decide +kernel)) (fun _ => rfl)
  have m4 : Cond.arrayOver (.object RX4) ∈ lw_tbl := List.mem_of_getElem? (i := 272) (by decide +kernel)
  have m8 : Cond.arrayOver (.object RX8) ∈ lw_tbl := List.mem_of_getElem? (i := 439) (by decide +kernel)
  obtain ⟨c3, o1', o2'⟩ := ao_ex hts m4
  obtain ⟨c4, s1', s2'⟩ := ao_ex hts m8
  obtain ⟨aK, aV, hS, hE⟩ := vk_Sof (N := 5) (tm := tmW) (len := lenW) (byt := bytW) (A := fun q => s.heap.size ≤ q) (args := #[Value.ref b]) (s := s) (by decide) (fun i hi => hs _ (mw_ex i hi)) (fun i hi => hs _ (mw_co i hi)) (fun i hi => hs _ (mw_ar i hi)) (fun i hi => hs _ (mw_le i hi)) (fun i hi j hj => hs _ (mw_el i hi j hj)) (fun i j hi hj hne => (mw_ne i hi j hj hne).elim (fun h => Or.inl (hs _ h)) (fun h => Or.inr (hs _ h))) hA
  let D1 : Nat → ClassId := fun k => if k = 50 then c0 else if k = 51 then c1 else if k = 52 then c2 else if k = 53 then c3 else if k = 54 then c4 else (f k).1
  let D2 : Nat → Nat → Nat := fun k => if k = 100 then aK else if k = 101 then aV else (f k).2
  refine ⟨(D1, D2), ⟨fun c q hq => ?_, fun k q hq => ?_⟩, ⟨va_Nw.of rfl (hts _ (List.mem_of_getElem? (i := 182) (by decide +kernel))), va_Nw.of rfl (hts _ (List.mem_of_getElem? (i := 198) (by decide +kernel))), va_Nw.of rfl (hts _ (List.mem_of_getElem? (i := 275) (by decide +kernel))), va_Nw.of rfl (hts _ (List.mem_of_getElem? (i := 434) (by decide +kernel))), va_Nw.of rfl (hts _ (List.mem_of_getElem? (i := 702) (by decide +kernel)))⟩, va_AO.of (hts _ m4), va_AO.of (hts _ m8), hS, fun q hq => ?_, va_Zof (hts _ (List.mem_of_getElem? (i := 558) (by decide +kernel))) (hts _ (List.mem_of_getElem? (i := 164) (by decide +kernel))) (va_eqi (hs _ mw_cs)) hA, va_Zqof (hts _ (List.mem_of_getElem? (i := 574) (by decide +kernel))) (hts _ (List.mem_of_getElem? (i := 166) (by decide +kernel))) (hs _ mw_sf) hA⟩
  · have hc := vw_len c q hq
    have e1 : D1 c = (f c).1 := by show (if c = 50 then _ else _) = _; rw [if_neg (by omega), if_neg (by omega), if_neg (by omega), if_neg (by omega), if_neg (by omega)]
    have e2 : D2 c = (f c).2 := by show (if c = 100 then _ else _) = _; rw [if_neg (by omega), if_neg (by omega)]
    show u_Kn s q.1 q.2.1 q.2.2 (D1 c) (D2 c)
    rw [e1, e2]
    exact hf c q hq
  · match k, hq with
    | 0, hq => cases hq; exact ⟨i1, i2⟩
    | 1, hq => cases hq; exact ⟨b1, b2⟩
    | 2, hq => cases hq; exact ⟨l1, l2⟩
    | 3, hq => cases hq; exact ⟨o1', o2'⟩
    | 4, hq => cases hq; exact ⟨s1', s2'⟩
    | k + 5, hq => exact absurd (List.getElem?_eq_some_iff.mp hq).1 (by show ¬ k + 5 < 5; omega)
  · obtain ⟨h5, he⟩ := mw_tm q hq
    refine vk_R.of (A := #[Value.ref b]) (hts _ (mw_rf q hq)) ?_
    have hw := hE q.2.2.2 h5
    rcases he with e | e
    · rw [e]; exact hw
    · rw [e]; exact va_eqR (hs _ (mw_eq _ h5)) hw
end ST
