def bt (x : Int32) (i : Nat) : Bool := x.toBitVec.getLsbD i
theorem b_ext {x y : Int32} (h : ∀ i, i < 32 → bt x i = bt y i) : x = y := Int32.toBitVec_inj.mp (BitVec.eq_of_getLsbD_eq (fun i hi => h i hi))
theorem b_or (x y : Int32) (i : Nat) : bt (x ||| y) i = (bt x i || bt y i) := by unfold bt; rw [Int32.toBitVec_or, BitVec.getLsbD_or]
theorem b_and (x y : Int32) (i : Nat) : bt (x &&& y) i = (bt x i && bt y i) := by unfold bt; rw [Int32.toBitVec_and, BitVec.getLsbD_and]
theorem b_xor (x y : Int32) (i : Nat) : bt (x ^^^ y) i = (bt x i ^^ bt y i) := by unfold bt; rw [Int32.toBitVec_xor, BitVec.getLsbD_xor]
theorem b_big {x : Int32} {i : Nat} (h : 32 ≤ i) : bt x i = false := BitVec.getLsbD_of_ge _ _ h
theorem b_255 (i : Nat) : bt 255 i = decide (i < 8) := by
  rcases Nat.lt_or_ge i 32 with h | h
  · exact (by decide +kernel : ∀ i, i < 32 → bt 255 i = decide (i < 8)) i h
  · rw [b_big h, decide_eq_false (by omega)]
theorem b_65535 (i : Nat) : bt 65535 i = decide (i < 16) := by
  rcases Nat.lt_or_ge i 32 with h | h
  · exact (by decide +kernel : ∀ i, i < 32 → bt 65535 i = decide (i < 16)) i h
  · rw [b_big h, decide_eq_false (by omega)]
theorem b_m1 : ∀ i, i < 32 → bt (-1) i = true := by decide +kernel
theorem b_0 (i : Nat) : bt 0 i = false := BitVec.getLsbD_zero
theorem s_l : ∀ n, n < 32 → ((nI n &&& 31).toBitVec.smod 32).toNat = n := by decide +kernel
theorem s_u : ∀ n, n < 32 → (((nI n).toUInt32 &&& Int32.toUInt32 31).toBitVec % 32).toNat = n := by decide +kernel
theorem b_shl (n : Nat) (hn : n < 32) (x : Int32) {i : Nat} (hi : i < 32) : bt (x <<< (nI n &&& 31)) i = (decide (n ≤ i) && bt x (i - n)) := by
  unfold bt
  rw [Int32.toBitVec_shiftLeft]
  show (x.toBitVec <<< ((nI n &&& 31).toBitVec.smod 32).toNat).getLsbD i = _
  rw [s_l n hn, BitVec.getLsbD_shiftLeft]
  rcases Nat.lt_or_ge i n with h | h
  · simp [h, Nat.not_le.mpr h]
  · simp [hi, h, Nat.not_lt.mpr h]
theorem b_ushr (n : Nat) (hn : n < 32) (x : Int32) (i : Nat) : bt ((x.toUInt32 >>> ((nI n).toUInt32 &&& Int32.toUInt32 31)).toInt32) i = bt x (n + i) := by
  show (x.toUInt32 >>> ((nI n).toUInt32 &&& Int32.toUInt32 31)).toBitVec.getLsbD i = x.toUInt32.toBitVec.getLsbD (n + i)
  rw [UInt32.toBitVec_shiftRight]
  show (x.toUInt32.toBitVec >>> (((nI n).toUInt32 &&& Int32.toUInt32 31).toBitVec % 32).toNat).getLsbD i = _
  rw [s_u n hn, BitVec.getLsbD_ushiftRight]
theorem b_sshr (n : Nat) (hn : n < 32) (x : Int32) {i : Nat} (hi : i < 32) : bt (x >>> (nI n &&& 31)) i = if n + i < 32 then bt x (n + i) else bt x 31 := by
  unfold bt
  rw [Int32.toBitVec_shiftRight]
  show (x.toBitVec.sshiftRight ((nI n &&& 31).toBitVec.smod 32).toNat).getLsbD i = _
  rw [s_l n hn, BitVec.getLsbD_sshiftRight, BitVec.msb_eq_getLsbD_last]
  simp [hi]
theorem b_shl8 (x : Int32) {i : Nat} (hi : i < 32) : bt (x <<< ((8 : Int32) &&& 31)) i = (decide (8 ≤ i) && bt x (i - 8)) := b_shl 8 (by omega) x hi
theorem b_shl16 (x : Int32) {i : Nat} (hi : i < 32) : bt (x <<< ((16 : Int32) &&& 31)) i = (decide (16 ≤ i) && bt x (i - 16)) := b_shl 16 (by omega) x hi
/-! SETS OF ELEMENTS as ints: bit by bit -/
theorem b_one (k : Nat) (hk : k < 32) {i : Nat} (hi : i < 32) : bt ((1 : Int32) <<< (nI k &&& 31)) i = decide (i = k) :=
  (by decide +kernel : ∀ k, k < 32 → ∀ i, i < 32 → bt ((1 : Int32) <<< (nI k &&& 31)) i = decide (i = k)) k hk i hi
theorem b_not (x : Int32) {i : Nat} (hi : i < 32) : bt (x ^^^ (-1)) i = !bt x i := by rw [b_xor, b_m1 i hi, Bool.xor_true]
theorem b_eq0 {x : Int32} : x = 0 ↔ ∀ i, i < 32 → bt x i = false :=
  ⟨fun h i _ => by rw [h]; exact b_0 i, fun h => b_ext fun i hi => by rw [h i hi, b_0]⟩
theorem b_bit (x : Int32) (k : Nat) (hk : k < 32) : (x >>> (nI k &&& 31)) &&& 1 = 1 ↔ bt x k = true := by
  have h1 : ∀ i, i < 32 → bt (1 : Int32) i = decide (i = 0) := by decide +kernel
  constructor
  · intro h
    have := congrArg (fun q => bt q 0) h
    simp only [b_and, b_sshr k hk x (show 0 < 32 by decide), h1 0 (by decide)] at this
    simpa [hk] using this
  · intro h
    apply b_ext
    intro i hi
    rw [b_and, h1 i hi]
    by_cases e : i = 0
    · subst e
      rw [b_sshr k hk x hi]
      simp [hk, h]
    · simp [e]
theorem b_bit0 (x : Int32) (k : Nat) (hk : k < 32) : ¬ ((x >>> (nI k &&& 31)) &&& 1 = 1) ↔ bt x k = false := by
  rw [b_bit x k hk, Bool.not_eq_true]
theorem b_all : ∀ n, n ≤ 16 → ∀ i, i < 32 → bt (((1 : Int32) <<< (nI n &&& 31)) - 1) i = decide (i < n) := by decide +kernel
/-- the set of the numbers below n that f names -/
def mkset (f : Nat → Bool) : Nat → Int32
  | 0 => 0
  | n + 1 => mkset f n ||| (if f n = true then (1 : Int32) <<< (nI n &&& 31) else 0)
theorem b_mk (f : Nat → Bool) : ∀ n, n ≤ 32 → ∀ i, i < 32 → bt (mkset f n) i = (decide (i < n) && f i)
  | 0, _, i, hi => by simp [mkset, b_0]
  | n + 1, hn, i, hi => by
    rw [mkset, b_or, b_mk f n (by omega) i hi]
    by_cases hf : f n = true
    · rw [if_pos hf, b_one n (by omega) hi]
      by_cases e : i = n
      · subst e; simp [hf]
      · have : (i < n + 1) = (i < n) := by apply propext; omega
        simp [e, this]
    · rw [if_neg hf, b_0]
      by_cases e : i = n
      · subst e; simp [hf]
      · have : (i < n + 1) = (i < n) := by apply propext; omega
        simp [this]
theorem mkset_cong {f g : Nat → Bool} : ∀ {n : Nat}, (∀ i, i < n → f i = g i) → mkset f n = mkset g n
  | 0, _ => rfl
  | n + 1, h => by rw [mkset, mkset, mkset_cong (fun i hi => h i (by omega)), h n (by omega)]
/-- a set of numbers below n is what its bits say -/
theorem mk_of {x : Int32} {f : Nat → Bool} {n : Nat} (hn : n ≤ 32) (h : ∀ i, i < 32 → bt x i = (decide (i < n) && f i)) : x = mkset f n := b_ext fun i hi => by rw [h i hi, b_mk f n hn i hi]
theorem bt_nI (k i : Nat) (hi : i < 32) : bt (nI k) i = k.testBit i := by
  show (BitVec.ofNat 32 k).getLsbD i = _
  rw [BitVec.getLsbD_ofNat]
  simp [hi]
/-- a set of numbers below 16, as a number -/
theorem set16 {x : Int32} (h : ∀ i, 16 ≤ i → i < 32 → bt x i = false) : ∃ k, k < 65536 ∧ x = nI k ∧ ∀ i, i < 32 → k.testBit i = bt x i := by
  refine ⟨x.toBitVec.toNat, ?_, ?_, fun i hi => ?_⟩
  · apply Nat.lt_pow_two_of_testBit (n := 16)
    intro i hi
    rcases Nat.lt_or_ge i 32 with h1 | h1
    · exact h i hi h1
    · exact b_big h1
  · apply Int32.toBitVec_inj.1
    show _ = BitVec.ofNat 32 _
    simp
  · rfl
/-! counting -/
def ct (f : Nat → Bool) : Nat → Nat
  | 0 => 0
  | n + 1 => ct f n + (if f n = true then 1 else 0)
theorem ct_cong {f g : Nat → Bool} : ∀ {n : Nat}, (∀ i, i < n → f i = g i) → ct f n = ct g n
  | 0, _ => rfl
  | n + 1, h => by rw [ct, ct, ct_cong (fun i hi => h i (by omega)), h n (by omega)]
theorem ct_le (f : Nat → Bool) : ∀ n, ct f n ≤ n
  | 0 => Nat.le_refl _
  | n + 1 => by
    have := ct_le f n
    rw [ct]
    split <;> omega
/-- bits of a number below 65536, counted: as Integer.bitCount does, as a row of halves does -/
def pcN (k : Nat) : Nat := k % 2 + k / 2 % 2 + k / 4 % 2 + k / 8 % 2 + k / 16 % 2 + k / 32 % 2 + k / 64 % 2 + k / 128 % 2 + k / 256 % 2 + k / 512 % 2 + k / 1024 % 2 + k / 2048 % 2 + k / 4096 % 2 + k / 8192 % 2 + k / 16384 % 2 + k / 32768 % 2
theorem ct_tb (k : Nat) : ct (fun i => k.testBit i) 16 = pcN k := by
  have e : ∀ i, (if k.testBit i = true then 1 else 0) = k / 2 ^ i % 2 := by
    intro i
    rw [Nat.testBit_eq_decide_div_mod_eq]
    by_cases h : k / 2 ^ i % 2 = 1
    · simp [h]
    · have : k / 2 ^ i % 2 = 0 := by omega
      simp [this]
  simp only [ct, e]
  simp [pcN]
def bcN (k : Nat) : Nat :=
  (fun a => (fun b => (fun c => (fun d => Nat.land (Nat.add d (Nat.shiftRight d 16)) 63) (Nat.add c (Nat.shiftRight c 8))) (Nat.land (Nat.add b (Nat.shiftRight b 4)) 252645135)) (Nat.add (Nat.land a 858993459) (Nat.land (Nat.shiftRight a 2) 858993459))) (Nat.sub k (Nat.land (Nat.shiftRight k 1) 1431655765))
def chkR (k : Nat) : Bool := Nat.beq (bcN k) (Nat.add (Nat.mod k 2) (bcN (Nat.div k 2)))
def allB (p : Nat → Bool) : Nat → Bool
  | 0 => true
  | n + 1 => p n && allB p n
theorem allB_of {p : Nat → Bool} : ∀ {n : Nat}, allB p n = true → ∀ k, k < n → p k = true
  | 0, _, k, hk => absurd hk (Nat.not_lt_zero k)
  | n + 1, h, k, hk => by
    rw [allB, Bool.and_eq_true] at h
    rcases Nat.lt_or_ge k n with g | g
    · exact allB_of h.2 k g
    · rw [show k = n by omega]
      exact h.1
theorem chk_0 : allB (fun a => allB (fun b => chkR (Nat.add (Nat.mul 256 (Nat.add a 0)) b)) 256) 32 = true := by decide +kernel
theorem chk_1 : allB (fun a => allB (fun b => chkR (Nat.add (Nat.mul 256 (Nat.add a 32)) b)) 256) 32 = true := by decide +kernel
theorem chk_2 : allB (fun a => allB (fun b => chkR (Nat.add (Nat.mul 256 (Nat.add a 64)) b)) 256) 32 = true := by decide +kernel
theorem chk_3 : allB (fun a => allB (fun b => chkR (Nat.add (Nat.mul 256 (Nat.add a 96)) b)) 256) 32 = true := by decide +kernel
theorem chk_4 : allB (fun a => allB (fun b => chkR (Nat.add (Nat.mul 256 (Nat.add a 128)) b)) 256) 32 = true := by decide +kernel
theorem chk_5 : allB (fun a => allB (fun b => chkR (Nat.add (Nat.mul 256 (Nat.add a 160)) b)) 256) 32 = true := by decide +kernel
theorem chk_6 : allB (fun a => allB (fun b => chkR (Nat.add (Nat.mul 256 (Nat.add a 192)) b)) 256) 32 = true := by decide +kernel
theorem chk_7 : allB (fun a => allB (fun b => chkR (Nat.add (Nat.mul 256 (Nat.add a 224)) b)) 256) 32 = true := by decide +kernel
theorem chk {k : Nat} (h : k < 65536) : bcN k = k % 2 + bcN (k / 2) := by
  have key : chkR k = true := by
    have e : k = 256 * (k / 256) + k % 256 := by omega
    have hb : k % 256 < 256 := by omega
    have ha : k / 256 < 256 := by omega
    generalize k / 256 = x at e ha
    generalize k % 256 = y at e hb
    subst e
    rcases Nat.lt_or_ge x 32 with g | g
    · have h1 := allB_of (allB_of chk_0 (x - 0) (by omega)) y hb
      rwa [show Nat.add (x - 0) 0 = x from Nat.sub_add_cancel (by omega)] at h1
    rcases Nat.lt_or_ge x 64 with g | g
    · have h1 := allB_of (allB_of chk_1 (x - 32) (by omega)) y hb
      rwa [show Nat.add (x - 32) 32 = x from Nat.sub_add_cancel (by omega)] at h1
    rcases Nat.lt_or_ge x 96 with g | g
    · have h1 := allB_of (allB_of chk_2 (x - 64) (by omega)) y hb
      rwa [show Nat.add (x - 64) 64 = x from Nat.sub_add_cancel (by omega)] at h1
    rcases Nat.lt_or_ge x 128 with g | g
    · have h1 := allB_of (allB_of chk_3 (x - 96) (by omega)) y hb
      rwa [show Nat.add (x - 96) 96 = x from Nat.sub_add_cancel (by omega)] at h1
    rcases Nat.lt_or_ge x 160 with g | g
    · have h1 := allB_of (allB_of chk_4 (x - 128) (by omega)) y hb
      rwa [show Nat.add (x - 128) 128 = x from Nat.sub_add_cancel (by omega)] at h1
    rcases Nat.lt_or_ge x 192 with g | g
    · have h1 := allB_of (allB_of chk_5 (x - 160) (by omega)) y hb
      rwa [show Nat.add (x - 160) 160 = x from Nat.sub_add_cancel (by omega)] at h1
    rcases Nat.lt_or_ge x 224 with g | g
    · have h1 := allB_of (allB_of chk_6 (x - 192) (by omega)) y hb
      rwa [show Nat.add (x - 192) 192 = x from Nat.sub_add_cancel (by omega)] at h1
    have h1 := allB_of (allB_of chk_7 (x - 224) (by omega)) y hb
    rwa [show Nat.add (x - 224) 224 = x from Nat.sub_add_cancel (by omega)] at h1
  exact Nat.eq_of_beq_eq_true key
theorem pc_half (k : Nat) (h : k < 65536) : pcN k = k % 2 + pcN (k / 2) := by
  simp only [pcN, Nat.div_div_eq_div_mul]
  have : k / 65536 = 0 := Nat.div_eq_of_lt h
  simp only [Nat.reduceMul, this]
  omega
theorem bc_pc {k : Nat} (h : k < 65536) : bcN k = pcN k := by
  induction k using Nat.strongRecOn with
  | _ k ih =>
    rw [chk h, pc_half k h]
    rcases Nat.eq_zero_or_pos k with e | e
    · subst e; rfl
    · rw [ih (k / 2) (by omega) (by omega)]
theorem pc_drop {k : Nat} (h : k < 65536) (h0 : k ≠ 0) : pcN (k &&& (k - 1)) + 1 = pcN k := by
  induction k using Nat.strongRecOn with
  | _ k ih =>
    have hl : k &&& (k - 1) ≤ k := Nat.and_le_left
    rw [pc_half k h, pc_half (k &&& (k - 1)) (by omega)]
    have e1 : (k &&& (k - 1)) % 2 = 0 := by
      have t : (k &&& (k - 1)).testBit 0 = false := by
        rw [Nat.testBit_and, Nat.testBit_zero, Nat.testBit_zero]
        rcases Nat.mod_two_eq_zero_or_one k with g | g
        · simp [g]
        · have : (k - 1) % 2 = 0 := by omega
          simp [this]
      rw [Nat.testBit_zero] at t
      have := of_decide_eq_false t
      omega
    have e2 : (k &&& (k - 1)) / 2 = if k % 2 = 1 then k / 2 else (k / 2) &&& (k / 2 - 1) := by
      rw [Nat.and_div_two]
      by_cases g : k % 2 = 1
      · rw [if_pos g, show (k - 1) / 2 = k / 2 by omega, Nat.and_self]
      · rw [if_neg g, show (k - 1) / 2 = k / 2 - 1 by omega]
    rw [e1, e2]
    by_cases g : k % 2 = 1
    · rw [if_pos g, g]; omega
    · rw [if_neg g]
      have := ih (k / 2) (by omega) (by omega) (by omega)
      omega
/-! loops -/
theorem for_up {P : Nat → Prop} {n : Nat} (hend : P n) (hstep : ∀ i, i < n → P (i + 1) → P i) {i : Nat} (hi : i ≤ n) : P i := by
  induction hk : n - i generalizing i with
  | zero => rw [show i = n by omega]; exact hend
  | succ k ih => exact hstep i (by omega) (ih (by omega) (by omega))
theorem for_down {P : Nat → Prop} (hend : P 0) (hstep : ∀ i, P i → P (i + 1)) (i : Nat) : P i := by
  induction i with
  | zero => exact hend
  | succ k ih => exact hstep k ih
/-- the first number from i on, of those below i + k, that p names gives its answer; else d -/
def scan {β : Type} (p : Nat → Bool) (r : Nat → β) (d : β) : Nat → Nat → β
  | 0, _ => d
  | k + 1, i => if p i = true then r i else scan p r d k (i + 1)
theorem scan_s {β : Type} {p : Nat → Bool} {r : Nat → β} {d : β} {n i : Nat} (h : i < n) : scan p r d (n - i) i = if p i = true then r i else scan p r d (n - (i + 1)) (i + 1) := by
  rw [show n - i = (n - (i + 1)) + 1 by omega, scan]
theorem scan_0 {β : Type} {p : Nat → Bool} {r : Nat → β} {d : β} {n : Nat} : scan p r d (n - n) n = d := by rw [Nat.sub_self]; rfl
theorem scan_cong {β : Type} {p q : Nat → Bool} {r s : Nat → β} {d : β} : ∀ (k i : Nat), (∀ j, i ≤ j → j < i + k → p j = q j ∧ r j = s j) → scan p r d k i = scan q s d k i
  | 0, _, _ => rfl
  | k + 1, i, h => by
    obtain ⟨e1, e2⟩ := h i (Nat.le_refl _) (by omega)
    rw [scan, scan, e1, e2, scan_cong k (i + 1) (fun j h1 h2 => h j (by omega) (by omega))]
theorem cl_nI {n : Nat} (h : n < 2 ^ 31) : (nI n).toNatClampNeg = n := nI_clamp h
theorem in_nI {n N : Nat} (h : n < N) (hN : N < 2 ^ 31) : vp_in (nI n) N := vp_in_nI h hN
