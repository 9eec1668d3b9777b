/-! THE CLASS: functions reckoned -/
theorem tS_0 {f g : Nat → Int64} {s : Int32} : ∀ {n : Nat}, (∀ i, i < n → bt s i = false) → tS f g s n = 0 ∧ oS f g s n = false
  | 0, _ => ⟨rfl, rfl⟩
  | n + 1, h => by
    have := tS_0 (f := f) (g := g) (s := s) (n := n) (fun i hi => h i (by omega))
    rw [tS, oS, if_neg (by rw [h n (by omega)]; decide), h n (by omega), Bool.false_and, Bool.or_false]
    exact this
theorem iv_no {n a b : Nat} {A : Nat → Int32} (hP : PO n A) (h16 : n ≤ 16) (ha : a < n) (hb : b < n) (h : le A a b = false) : ∀ i, i < n → bt (ivS n A a b) i = false := fun i hi => by
  rw [iv_b (by omega) hb (by omega), decide_eq_true hi, Bool.true_and, Bool.eq_false_iff]
  intro q
  rw [Bool.and_eq_true] at q
  rw [le_tr hP (by omega) ha hi hb q.1 q.2] at h
  cases h
theorem tl_z {a b : Int64} (h : b = 0) : q_tl a b = false := by rw [q_tl, decide_eq_true h, Bool.or_true]; rfl
theorem ovd_z {a b : Int64} (h : b = 0) : q_ovd a b = false := by rw [q_ovd, h, Int64.sub_zero, Int64.xor_self, Int64.and_zero]; exact decide_eq_false (fun q => q (Int64.le_refl _))
theorem ovc_z {a b : Int64} (h : a = 0) : q_ovc a b = false := by rw [h]; exact ovc_0 b
theorem e_zero' (k : Int32) {a b : Int64} (ha : a = 0) (hb : b = 0) : eO k a b = false ∧ eV k a b = 0 := by
  rw [eO, eV]
  by_cases h3 : k = 3
  · rw [if_pos h3, if_pos h3]; exact ⟨tl_z hb, by rw [ha, Int64.zero_mul]⟩
  rw [if_neg h3, if_neg h3]
  by_cases h0 : k = 0
  · rw [if_pos h0, if_pos h0]; exact ⟨ovc_z ha, by rw [hb, Int64.add_zero, ha]⟩
  rw [if_neg h0, if_neg h0]; exact ⟨ovd_z hb, by rw [hb, Int64.sub_zero, ha]⟩
theorem e_zero (k : Int32) : eO k 0 0 = false ∧ eV k 0 0 = 0 := e_zero' k rfl rfl
section RKC
variable {n : Nat} {A : Nat → Int32} {F F' : Nat → Nat → Int64}
theorem ivF_c (h : ∀ a b, a < n → b < n → F a b = F' a b) : ∀ k a b, a < n → ivF n A F k a b = ivF n A F' k a b
  | 0, _, _, _ => rfl
  | k + 1, a, b, ha => by
    rw [ivF, ivF, h a a ha ha, tS_c (f' := F' a) (g' := fun y => ivF n A F' k y b) (fun y hy _ => ⟨h a y ha hy, ivF_c h k y b hy⟩)]
theorem iv_cF (h : ∀ a b, a < n → b < n → F a b = F' a b) {a b : Nat} (ha : a < n) : iv n A F a b = iv n A F' a b := ivF_c h n a b ha
theorem ivO_cF (h : ∀ a b, a < n → b < n → F a b = F' a b) {a b : Nat} (ha : a < n) : ivO n A F a b = ivO n A F' a b := by
  rw [ivO, ivO, ivT, ivT, h a a ha ha, tS_c (f' := F' a) (g' := fun y => iv n A F' y b) (fun y hy _ => ⟨h a y ha hy, iv_cF h hy⟩), oS_c (f' := F' a) (g' := fun y => iv n A F' y b) (fun y hy _ => ⟨h a y ha hy, iv_cF h hy⟩)]
end RKC
theorem CO_r {s : St} {G : amG} {I : amI} {L : amL} {u v : Int32} {g : Nat → Int64} {t t' : Int64} (hs : CO s G I L) : CO s G (sI (sI I u) v) (sL (setL (sL L t') 37 g) t) ∧ frK I L (sI (sI I u) v) (sL (setL (sL L t') 37 g) t) :=
  CO_v hs (fun q a => by rw [sI_o a, sI_o a]) (fun q a b _ _ _ _ _ => by rw [sL_o a, setL_n b, sL_o a])
theorem fn_36 {s : St} {G : amG} {I : amI} {L : amL} (hs : CO s G I L) {q a b : Nat} (hq : q < 4) (ha : a < 16) (hb : b < 16) : L 36 (256 * q + 16 * a + b) = fnF s q a b := hs.2.1.2.1 _ (by omega)
