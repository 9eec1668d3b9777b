/-! WHAT BOTH STAND FOR AT FIRST -/
def r0 : Row := (1, fun _ => 0, fun _ => 0, fun _ => 0, fun _ => -1, 0)
def sI0 : St := (r0, (0, fun _ => 0), (0, fun _ => 0), 0, (0, fun _ => 0), (0, fun _ => r0))
theorem PO_0 : PO 1 (fun _ => 0) := ⟨fun x _ i _ h => absurd h (by rw [b_0]; decide), fun x _ => b_0 _, fun x y w _ _ _ h _ => absurd h (by rw [b_0]; decide)⟩
theorem WI_0 : WI sI0 0 := by
  have hr : WFr 0 0 r0 := ⟨⟨Nat.le_refl _, by decide, PO_0⟩, fun _ _ _ _ _ _ _ => rfl, fun _ _ _ => Or.inl rfl, fun _ _ _ => rfl⟩
  exact ⟨⟨hr, rfl, Nat.zero_le _, Nat.zero_le _, fun h => absurd h (by decide), fun h => absurd h (by decide), Nat.zero_le _, fun i hi => absurd hi (Nat.not_lt_zero _), Nat.zero_le _, fun i hi => absurd hi (Nat.not_lt_zero _)⟩, ⟨fun _ _ => rfl, fun i hi => absurd hi (Nat.not_lt_zero _)⟩, 0, Nat.le_refl _, rfl, fun i hi => absurd hi (Nat.not_lt_zero _)⟩
theorem mk_z {p : Nat → Bool} : ∀ n, (∀ i, i < n → p i = false) → mkset p n = 0
  | 0, _ => rfl
  | n + 1, h => by rw [mkset, mk_z n (fun i hi => h i (by omega)), if_neg (by rw [h n (by omega)]; decide)]; rfl
theorem bn_00 (x : Nat) : bn 1 (fun _ => 0) x = 0 := mk_z 1 (fun _ _ => b_0 _)
theorem cv_00 (x y : Nat) : cv 1 (fun _ => 0) x y = false := by rw [cv, b_0, Bool.false_and]
theorem OI_0 : OI iMF 3 1 (fun _ => 0) := by
  have z4 : iMF 4 = fun _ => 0 := rfl
  have z5 : iMF 5 = fun _ => 0 := rfl
  have z6 : iMF 6 = fun _ => 0 := rfl
  have z7 : iMF 7 = fun _ => 0 := rfl
  have z8 : iMF 8 = fun _ => 0 := rfl
  have z9 : iMF 9 = fun _ => 0 := rfl
  refine ⟨rfl, Nat.le_refl _, by decide, fun x _ => congrFun z4 x, fun x _ _ => congrFun z4 x, PO_0, ?_, ?_, ?_, ?_, ?_, ?_⟩
  · intro x _; rw [bn_00]; exact congrFun z5 x
  · intro x _; rw [mk_z 1 (fun i _ => cv_00 x i)]; exact congrFun z6 x
  · intro y _; rw [mk_z 1 (fun i _ => cv_00 i y)]; exact congrFun z7 y
  · intro y hy
    rw [show y = 0 by omega]; exact congrFun z9 _
  · intro x _
    rw [bn_00]
    show iMF 8 x = maxS (iMF 8) 0 1
    rw [z8, maxS, maxS, if_neg (by rw [b_0]; decide)]
  · intro y _ _; exact congrFun z5 y
theorem CO_0 : CO sI0 gM40 iMF lMF := by
  have z0 : iMF 0 = fun _ => 0 := rfl
  have z36 : lMF 36 = fun _ => 0 := rfl
  have z40 : lMF 40 = fun _ => 0 := rfl
  have z42 : iMF 42 = m1 := rfl
  have hb : ∀ i, bt (iMF 0 14) i = false := fun i => by rw [z0]; exact b_0 i
  have h62 : ∀ i, i < 8 → gR gM40 62 i = none := by decide +kernel
  refine ⟨Lay_M, ⟨OI_0, fun k _ => congrFun z36 k, fun a _ => congrFun z40 a, fun x hx => ?_, rfl, Or.inl ⟨rfl, hb 0⟩, Or.inl ⟨rfl, hb 1⟩, fun i _ _ => hb i, rfl, fun i hi => absurd hi (Nat.not_lt_zero _)⟩, ⟨Or.inl rfl, Or.inl rfl, Or.inl rfl⟩, ⟨0, by decide, rfl, rfl, Nat.zero_le _, fun i h hi hh => ?_, fun i j h k hi _ _ hh _ => ?_, fun j hj => absurd hj (Nat.not_lt_zero _)⟩, ⟨60, 0, ⟨by decide +kernel, by decide +kernel, by decide +kernel, by decide +kernel⟩, Or.inl rfl, Or.inl rfl, fun i h hi hh => ?_⟩⟩
  · rw [z42, m1, q_fill, if_pos hx]; rfl
  · rw [h62 i hi] at hh; cases hh
  · rw [h62 i hi] at hh; cases hh
  · rw [h62 i hi] at hh; cases hh
theorem RI_0 : RI sI0 iMF lMF := by
  have z69 : iMF 69 = fun _ => 0 := rfl
  have e65 : lMF 65 = m_clr (vp_updL (vp_updL (fun _ => 0) 0 1) 1 1) 0 := rfl
  have hlow : ∀ k, k < 17 → lMF 65 k = vp_updL (vp_updL (fun _ => 0) 0 1) 1 1 k := fun k hk => by rw [e65, m_clr, m_fgt, updL_n (by omega), wr_out (by omega), wr_out (by omega)]
  have hF : ∀ k, 17 ≤ k → k < 1057 → lMF 65 k = 0 := fun k a b => by rw [e65, m_clr, m_fgt, updL_n (by omega), wr_out (by omega), wr_in (by omega)]
  refine ⟨⟨⟨Nat.le_refl _, by decide, PO_0, ?_, fun a ha => ?_, fun a ha hb => ?_⟩, fun k hk => hF _ (by omega) (by omega), fun a ha => hF _ (by omega) (by omega), fun x hx => ?_, ?_⟩, rfl, Or.inl ⟨rfl, rfl⟩, Or.inl ⟨rfl, rfl⟩, rfl, fun i hi => absurd hi (Nat.not_lt_zero _), rfl, fun j hj => absurd hj (Nat.not_lt_zero _), Or.inl rfl⟩
  · rw [hlow 0 (by decide)]; rfl
  · have ha : a < 1 := ha
    rw [show a = 0 by omega, hlow 1 (by decide)]
    show (1 : Int64) = (upS (fun _ => 0) 0).toInt64
    decide +kernel
  · have ha : 1 ≤ a := ha
    rw [hlow (1 + a) (by omega), updL_n (by omega), updL_n (by omega)]
  · rw [e65, m_clr, m_fgt, updL_n (by omega), wr_in (by omega)]
    show (-1 : Int64) = (-1 : Int32).toInt64
    decide +kernel
  · rw [e65, m_clr, m_fgt, updL_s]; rfl
