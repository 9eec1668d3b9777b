/-! A TEXT READ: blanks, numbers, words, kinds, lines -/
def tb (m : Nat) (T : Nat → Int32) (k : Nat) : Int32 := if k < m then T k else -1
def isBl (x : Int32) : Bool := decide (x = 32)
def isDg (x : Int32) : Bool := decide (48 ≤ x) && decide (x ≤ 57)
def isLt (x : Int32) : Bool := decide (97 ≤ x) && decide (x ≤ 122)
/-- the first place from k on, below m, where p fails; or m -/
def rn (p : Int32 → Bool) (b : Nat → Int32) (m k : Nat) : Nat := scan (fun j => !p (b j)) id m (m - k) k
theorem rn_s {p : Int32 → Bool} {b : Nat → Int32} {m k : Nat} (h : k < m) : rn p b m k = if p (b k) = true then rn p b m (k + 1) else k := by
  rw [rn, scan_s h]
  cases e : p (b k)
  · rfl
  · rfl
theorem rn_m {p : Int32 → Bool} {b : Nat → Int32} {m k : Nat} (h : m ≤ k) : rn p b m k = m := by
  rw [rn, Nat.sub_eq_zero_of_le h]; rfl
theorem rn_b {p : Int32 → Bool} {b : Nat → Int32} {m : Nat} : ∀ d k, m - k = d → k ≤ m → k ≤ rn p b m k ∧ rn p b m k ≤ m ∧ (∀ j, k ≤ j → j < rn p b m k → p (b j) = true) ∧ (rn p b m k < m → p (b (rn p b m k)) = false)
  | 0, k, h, hk => by
    rw [rn_m (by omega)]
    exact ⟨hk, Nat.le_refl _, fun j h1 h2 => by omega, fun h => absurd h (Nat.lt_irrefl _)⟩
  | d + 1, k, h, hk => by
    rw [rn_s (by omega)]
    cases e : p (b k)
    · rw [if_neg (by decide)]
      exact ⟨Nat.le_refl _, hk, fun j h1 h2 => by omega, fun _ => e⟩
    · rw [if_pos rfl]
      obtain ⟨g1, g2, g3, g4⟩ := rn_b (p := p) (b := b) (m := m) d (k + 1) (by omega) (by omega)
      refine ⟨by omega, g2, fun j h1 h2 => ?_, g4⟩
      by_cases ej : j = k
      · rw [ej]; exact e
      · exact g3 j (by omega) h2
theorem rn_le {p : Int32 → Bool} {b : Nat → Int32} {m k : Nat} (h : k ≤ m) : k ≤ rn p b m k ∧ rn p b m k ≤ m := ⟨(rn_b _ k rfl h).1, (rn_b _ k rfl h).2.1⟩
theorem rn_idem {p : Int32 → Bool} {b : Nat → Int32} {m k : Nat} (h : k ≤ m) : rn p b m (rn p b m k) = rn p b m k := by
  obtain ⟨g1, g2, g3, g4⟩ := rn_b (p := p) (b := b) _ k rfl h
  by_cases e : rn p b m k < m
  · rw [rn_s e, if_neg (by rw [g4 e]; decide)]
  · rw [rn_m (by omega)]; omega
abbrev sk (m : Nat) (T : Nat → Int32) (k : Nat) : Nat := rn isBl (tb m T) m k
abbrev dgE (m : Nat) (T : Nat → Int32) (k : Nat) : Nat := rn isDg (tb m T) m k
theorem tb_m {m k : Nat} {T : Nat → Int32} (h : m ≤ k) : tb m T k = -1 := if_neg (by omega)
theorem tb_lt {m k : Nat} {T : Nat → Int32} {x : Int32} (h : tb m T k = x) (hx : x ≠ -1) : k < m := Classical.byContradiction fun q => hx (by rw [← h, tb_m (by omega)])
def stp (v : Nat) (x : Int32) : Nat := if 9999 < v then v else 10 * v + (x.toNatClampNeg - 48)
def nvF (T : Nat → Int32) : Nat → Nat → Nat → Nat
  | 0, _, v => v
  | c + 1, k, v => nvF T c (k + 1) (stp v (T k))
/-- a number: its fault or 0, its value, where it begins, where it ends -/
def rdN (m : Nat) (T : Nat → Int32) (lo hi k : Nat) : Nat × Nat × Nat × Nat :=
  if isDg (tb m T (sk m T k)) = true then
    (if lo ≤ nvF T (dgE m T (sk m T k) - sk m T k) (sk m T k) 0 ∧ nvF T (dgE m T (sk m T k) - sk m T k) (sk m T k) 0 ≤ hi then 0 else 8 * sk m T k + 2, nvF T (dgE m T (sk m T k) - sk m T k) (sk m T k) 0, sk m T k, dgE m T (sk m T k))
  else (8 * sk m T k + 1, 0, sk m T k, sk m T k)
theorem rd_le {m lo hi k : Nat} {T : Nat → Int32} (h : k ≤ m) : k ≤ (rdN m T lo hi k).2.2.1 ∧ (rdN m T lo hi k).2.2.1 ≤ (rdN m T lo hi k).2.2.2 ∧ (rdN m T lo hi k).2.2.2 ≤ m := by
  obtain ⟨a1, a2⟩ := rn_le (p := isBl) (b := tb m T) h
  obtain ⟨b1, b2⟩ := rn_le (p := isDg) (b := tb m T) a2
  rw [rdN]
  split
  · exact ⟨a1, b1, b2⟩
  · exact ⟨a1, Nat.le_refl _, a2⟩
theorem rd_v {m lo hi k : Nat} {T : Nat → Int32} (h : (rdN m T lo hi k).1 = 0) : lo ≤ (rdN m T lo hi k).2.1 ∧ (rdN m T lo hi k).2.1 ≤ hi := by
  rw [rdN] at h ⊢
  by_cases e : isDg (tb m T (sk m T k)) = true
  · rw [if_pos e] at h ⊢
    exact Classical.byContradiction fun q => by
      have : (if lo ≤ nvF T (dgE m T (sk m T k) - sk m T k) (sk m T k) 0 ∧ nvF T (dgE m T (sk m T k) - sk m T k) (sk m T k) 0 ≤ hi then 0 else 8 * sk m T k + 2) = 0 := h
      rw [if_neg q] at this
      omega
  · rw [if_neg e] at h
    have : 8 * sk m T k + 1 = 0 := h
    omega
theorem stp_le {v : Nat} {x : Int32} (h : isDg x = true) (hv : v ≤ 99999) : stp v x ≤ 99999 := by
  rw [isDg, Bool.and_eq_true, decide_eq_true_eq, decide_eq_true_eq] at h
  have hx : x.toNatClampNeg ≤ 57 := by
    have h0 : ¬ x < 0 := by
      rw [Int32.not_lt]
      have := h.1
      rw [Int32.le_iff_toInt_le] at this ⊢
      rw [show (48 : Int32).toInt = 48 from rfl] at this
      rw [show (0 : Int32).toInt = 0 from rfl]
      omega
    obtain ⟨j, hj, rfl⟩ := nI_of h0
    rw [cl_nI hj]
    exact (nI_leI (a := j) (b := 57) hj (by decide)).mp h.2
  rw [stp]
  split <;> omega
theorem nvF_le {m : Nat} {T : Nat → Int32} : ∀ c k v, (∀ j, k ≤ j → j < k + c → isDg (T j) = true) → v ≤ 99999 → nvF T c k v ≤ 99999
  | 0, _, _, _, hv => hv
  | c + 1, k, v, h, hv => nvF_le (m := m) c (k + 1) _ (fun j h1 h2 => h j (by omega) (by omega)) (stp_le (h k (Nat.le_refl _) (by omega)) hv)
/-! words -/
def wdC (m : Nat) (T : Nat → Int32) (w p : Nat) : Nat := scan (fun j => !decide (tb m T (p + j) = wB w j)) id (wL w) (wL w) 0
def wdM (m : Nat) (T : Nat → Int32) (w p : Nat) : Bool := decide (wdC m T w p = wL w) && !isLt (tb m T (p + wL w))
theorem wd_t {m : Nat} {T : Nat → Int32} {w p : Nat} : wdC m T w p = wL w ↔ ∀ j, j < wL w → tb m T (p + j) = wB w j := by
  have key : ∀ d j, wL w - j = d → j ≤ wL w → (scan (fun j => !decide (tb m T (p + j) = wB w j)) id (wL w) (wL w - j) j = wL w ↔ ∀ i, j ≤ i → i < wL w → tb m T (p + i) = wB w i) := by
    intro d
    induction d with
    | zero =>
      intro j h hj
      rw [h]
      exact ⟨fun _ i h1 h2 => by omega, fun _ => rfl⟩
    | succ d ih =>
      intro j h hj
      rw [scan_s (by omega)]
      by_cases e : tb m T (p + j) = wB w j
      · rw [if_neg (by rw [decide_eq_true e]; decide), ih (j + 1) (by omega) (by omega)]
        constructor
        · intro g i h1 h2
          by_cases ei : i = j
          · rw [ei]; exact e
          · exact g i (by omega) h2
        · intro g i h1 h2
          exact g i (by omega) h2
      · rw [if_pos (by rw [decide_eq_false e]; rfl)]
        constructor
        · intro g
          have : j = wL w := g
          omega
        · intro g
          exact absurd (g j (Nat.le_refl _) (by omega)) e
  have := key (wL w) 0 (by omega) (Nat.zero_le _)
  rw [Nat.sub_zero] at this
  rw [wdC, this]
  exact ⟨fun g j hj => g j (Nat.zero_le _) hj, fun g j _ hj => g j hj⟩
theorem wB_ne : ∀ w, w < 5 → ∀ j, j < wL w → wB w j ≠ -1 ∧ isLt (wB w j) = true := by decide +kernel
theorem wL_pos : ∀ w, w < 5 → 1 ≤ wL w := by decide
theorem wd_le {m : Nat} {T : Nat → Int32} {w p : Nat} (hw : w < 5) (h : wdM m T w p = true) : p + wL w ≤ m := by
  rw [wdM, Bool.and_eq_true, decide_eq_true_eq, wd_t] at h
  have h1 := wL_pos w hw
  have := tb_lt (h.1 (wL w - 1) (by omega)) (wB_ne w hw _ (by omega)).1
  omega
/-! kinds -/
def fl (p : Nat → Bool) (n : Nat) : List Nat := (List.range n).filter p
theorem fl_s {p : Nat → Bool} {n : Nat} : fl p (n + 1) = if p n = true then fl p n ++ [n] else fl p n := by
  rw [fl, List.range_succ, List.filter_append]
  by_cases h : p n = true
  · rw [if_pos h, List.filter_cons_of_pos h]; rfl
  · rw [if_neg h, List.filter_cons_of_neg h, List.filter_nil, List.append_nil]; rfl
theorem fl_mem {p : Nat → Bool} {n x : Nat} : x ∈ fl p n ↔ x < n ∧ p x = true := by rw [fl, List.mem_filter, List.mem_range]
theorem fl_lt {p : Nat → Bool} {n i j : Nat} (hij : i < j) (hj : j < (fl p n).length) : (fl p n).getD i 0 < (fl p n).getD j 0 := by
  have hp : List.Pairwise (· < ·) (fl p n) := List.Pairwise.filter _ List.pairwise_lt_range
  rw [List.getD_eq_getElem?_getD, List.getD_eq_getElem?_getD, List.getElem?_eq_getElem (by omega), List.getElem?_eq_getElem hj]
  exact List.pairwise_iff_getElem.mp hp i j (by omega) hj hij
theorem fl_get {p : Nat → Bool} {n j : Nat} (hj : j < (fl p n).length) : (fl p n).getD j 0 < n ∧ p ((fl p n).getD j 0) = true := by
  rw [List.getD_eq_getElem?_getD, List.getElem?_eq_getElem hj]
  exact fl_mem.mp (List.getElem_mem hj)
def dvL (v : Nat) : List Nat := fl (fun e => decide (v % (e + 1) = 0)) v
/-- the parts that rows tell: the row's number k, of n things -/
def prt (r k : Nat) : Nat := (r >>> (2 * (3 - k))) % 4
def rowG (r n : Nat) : Nat → Nat → Option Nat
  | 0, u => some u
  | f + 1, u => match rowG r n f u with
    | none => none
    | some u => if prt r f ≤ u then (if prt r f = u then some (u + 1) else some u) else none
def rowB (n r : Nat) : Bool := (rowG r n n 0).isSome && scan (fun k => !decide (prt r k = 0)) (fun _ => false) true (4 - n) n
def finB (n x y : Nat) : Bool := scan (fun k => scan (fun i => decide (prt x k = prt x i) && !decide (prt y k = prt y i)) (fun _ => true) false k 0) (fun _ => false) true n 0
def ptL (n : Nat) : List Nat := [[], [0], [0, 16], [0, 4, 16, 20, 24], [0, 1, 4, 5, 6, 16, 17, 18, 20, 21, 22, 24, 25, 26, 27]].getD n []
theorem pt_fl : ∀ n, n < 5 → 1 ≤ n → fl (rowB n) 256 = ptL n := by decide +kernel
def kN (q v : Nat) : Nat := if q = 0 then v else if q = 1 then v else if q = 2 then 2 ^ v else if q = 3 then (dvL v).length else (ptL v).length
def kR (q v a b : Nat) : Bool := if q = 0 then false else if q = 1 then decide (a ≤ b) else if q = 2 then decide (a &&& b = a) else if q = 3 then decide (((dvL v).getD b 0 + 1) % ((dvL v).getD a 0 + 1) = 0) else finB v ((ptL v).getD a 0) ((ptL v).getD b 0)
def kA (n : Nat) (R : Nat → Nat → Bool) (a : Nat) : Int32 := if a < n then mkset (fun b => decide (¬ b = a) && R a b) n else 0
def kLo (q : Nat) : Nat := if q = 2 then 0 else 1
def kHi (q : Nat) : Nat := if q = 0 then 16 else if q = 1 then 16 else if q = 2 then 4 else if q = 3 then 999 else 4
theorem kA_b {n a i : Nat} {R : Nat → Nat → Bool} (h16 : n ≤ 16) (ha : a < n) (hi : i < 32) : bt (kA n R a) i = (decide (i < n) && (decide (¬ i = a) && R a i)) := by
  rw [kA, if_pos ha, b_mk _ n (by omega) i hi]
theorem kA_PO {n : Nat} {R : Nat → Nat → Bool} (h16 : n ≤ 16) (hT : ∀ a b c, a < n → b < n → c < n → R a b = true → R b c = true → R a c = true) (hS : ∀ a b, a < n → b < n → R a b = true → R b a = true → a = b) : PO n (kA n R) := by
  refine ⟨fun x hx i hi h => ?_, fun x hx => ?_, fun x y w hx hy hw h1 h2 => ?_⟩
  · rw [kA_b h16 hx hi, Bool.and_eq_true, decide_eq_true_eq] at h; exact h.1
  · rw [kA_b h16 hx (by omega), decide_eq_false (not_not_intro rfl)]; simp
  · rw [kA_b h16 hx (by omega), Bool.and_eq_true, Bool.and_eq_true, decide_eq_true_eq, decide_eq_true_eq] at h1 ⊢
    rw [kA_b h16 hy (by omega), Bool.and_eq_true, Bool.and_eq_true, decide_eq_true_eq, decide_eq_true_eq] at h2
    refine ⟨hw, fun e => ?_, hT x y w hx hy hw h1.2.2 h2.2.2⟩
    subst e
    exact h1.2.1 (hS y w hy hw h2.2.2 h1.2.2)
theorem kA_up {n a : Nat} {R : Nat → Nat → Bool} (h16 : n ≤ 16) (ha : a < n) : upS (kA n R) a = ((1 : Int32) <<< (nI a &&& 31)) ||| mkset (R a) n := by
  apply b_ext
  intro i hi
  rw [up_b, le_b (by omega) hi, kA_b h16 ha hi, b_or, b_one a (by omega) hi, b_mk _ n (by omega) i hi]
  by_cases e : i = a
  · rw [decide_eq_true e]; simp
  · rw [decide_eq_false e, decide_eq_true e]; simp
def chkT (n : Nat) : Bool := allB (fun a => allB (fun b => allB (fun c => !(finB n ((ptL n).getD a 0) ((ptL n).getD b 0) && finB n ((ptL n).getD b 0) ((ptL n).getD c 0)) || finB n ((ptL n).getD a 0) ((ptL n).getD c 0)) (ptL n).length) (ptL n).length) (ptL n).length
def chkS (n : Nat) : Bool := allB (fun a => allB (fun b => !(finB n ((ptL n).getD a 0) ((ptL n).getD b 0) && finB n ((ptL n).getD b 0) ((ptL n).getD a 0)) || decide (a = b)) (ptL n).length) (ptL n).length
theorem chk_T : ∀ n, n < 5 → chkT n = true := by decide +kernel
theorem chk_S : ∀ n, n < 5 → chkS n = true := by decide +kernel
theorem pt_len : ∀ n, n < 5 → (ptL n).length ≤ 16 := by decide
theorem kR_T {q v : Nat} (hq : q < 5) (h4 : q = 4 → v < 5) {a b c : Nat} (ha : a < kN q v) (hb : b < kN q v) (hc : c < kN q v) (h1 : kR q v a b = true) (h2 : kR q v b c = true) : kR q v a c = true := by
  have hq5 : q = 0 ∨ q = 1 ∨ q = 2 ∨ q = 3 ∨ q = 4 := by omega
  rcases hq5 with rfl | rfl | rfl | rfl | rfl
  · exact absurd (show false = true from h1) (by decide)
  · have e1 : a ≤ b := of_decide_eq_true h1
    have e2 : b ≤ c := of_decide_eq_true h2
    exact decide_eq_true (Nat.le_trans e1 e2)
  · have e1 : a &&& b = a := of_decide_eq_true h1
    have e2 : b &&& c = b := of_decide_eq_true h2
    refine decide_eq_true ?_
    rw [← e1, Nat.and_assoc, e2]
  · have e1 : ((dvL v).getD b 0 + 1) % ((dvL v).getD a 0 + 1) = 0 := of_decide_eq_true h1
    have e2 : ((dvL v).getD c 0 + 1) % ((dvL v).getD b 0 + 1) = 0 := of_decide_eq_true h2
    exact decide_eq_true (Nat.mod_eq_zero_of_dvd (Nat.dvd_trans (Nat.dvd_of_mod_eq_zero e1) (Nat.dvd_of_mod_eq_zero e2)))
  · have := allB_of (allB_of (allB_of (chk_T v (h4 rfl)) a ha) b hb) c hc
    have e1 : finB v ((ptL v).getD a 0) ((ptL v).getD b 0) = true := h1
    have e2 : finB v ((ptL v).getD b 0) ((ptL v).getD c 0) = true := h2
    rw [e1, e2] at this
    exact this
theorem kR_S {q v : Nat} (hq : q < 5) (h4 : q = 4 → v < 5) {a b : Nat} (ha : a < kN q v) (hb : b < kN q v) (h1 : kR q v a b = true) (h2 : kR q v b a = true) : a = b := by
  have hq5 : q = 0 ∨ q = 1 ∨ q = 2 ∨ q = 3 ∨ q = 4 := by omega
  rcases hq5 with rfl | rfl | rfl | rfl | rfl
  · exact absurd (show false = true from h1) (by decide)
  · have e1 : a ≤ b := of_decide_eq_true h1
    have e2 : b ≤ a := of_decide_eq_true h2
    omega
  · have e1 : a &&& b = a := of_decide_eq_true h1
    have e2 : b &&& a = b := of_decide_eq_true h2
    rw [← e1, Nat.and_comm, e2]
  · have e1 : ((dvL v).getD b 0 + 1) % ((dvL v).getD a 0 + 1) = 0 := of_decide_eq_true h1
    have e2 : ((dvL v).getD a 0 + 1) % ((dvL v).getD b 0 + 1) = 0 := of_decide_eq_true h2
    have e := Nat.dvd_antisymm (Nat.dvd_of_mod_eq_zero e1) (Nat.dvd_of_mod_eq_zero e2)
    have ha' : a < (dvL v).length := ha
    have hb' : b < (dvL v).length := hb
    rcases Nat.lt_trichotomy a b with g | g | g
    · have : (dvL v).getD a 0 < (dvL v).getD b 0 := fl_lt g hb'
      omega
    · exact g
    · have : (dvL v).getD b 0 < (dvL v).getD a 0 := fl_lt g ha'
      omega
  · have := allB_of (allB_of (chk_S v (h4 rfl)) a ha) b hb
    have e1 : finB v ((ptL v).getD a 0) ((ptL v).getD b 0) = true := h1
    have e2 : finB v ((ptL v).getD b 0) ((ptL v).getD a 0) = true := h2
    rw [e1, e2] at this
    exact of_decide_eq_true this
/-- what a kind and its number tell: the fault or 0, where it ends, how many, what is above each -/
def rdK (m : Nat) (T : Nat → Int32) (q p : Nat) : Nat × Nat × Nat × (Nat → Int32) :=
  if (rdN m T (kLo q) (kHi q) (p + wL q)).1 = 0 then
    (if kN q (rdN m T (kLo q) (kHi q) (p + wL q)).2.1 ≤ 16 then 0 else 8 * (rdN m T (kLo q) (kHi q) (p + wL q)).2.2.1 + 2, (rdN m T (kLo q) (kHi q) (p + wL q)).2.2.2, kN q (rdN m T (kLo q) (kHi q) (p + wL q)).2.1, kA (kN q (rdN m T (kLo q) (kHi q) (p + wL q)).2.1) (kR q (rdN m T (kLo q) (kHi q) (p + wL q)).2.1))
  else ((rdN m T (kLo q) (kHi q) (p + wL q)).1, p, 0, fun _ => 0)
/-- a line, from its first sign on: the fault or 0, what is above each, where it ends -/
def lnP (m : Nat) (T : Nat → Int32) (n : Nat) : Nat → (Nat → Int32) → Nat → Nat → Nat × (Nat → Int32) × Nat
  | 0, A, _, k => (0, A, k)
  | f + 1, A, low, k =>
    if tb m T (sk m T k) = 60 then
      (if (rdN m T 0 (n - 1) (sk m T k + 1)).1 = 0 then
        (if le A (rdN m T 0 (n - 1) (sk m T k + 1)).2.1 low = true then (8 * (rdN m T 0 (n - 1) (sk m T k + 1)).2.2.1 + 3, A, k)
        else if tb m T (sk m T (rdN m T 0 (n - 1) (sk m T k + 1)).2.2.2) = 60 then lnP m T n f (relA n A low (rdN m T 0 (n - 1) (sk m T k + 1)).2.1) (rdN m T 0 (n - 1) (sk m T k + 1)).2.1 (sk m T (rdN m T 0 (n - 1) (sk m T k + 1)).2.2.2)
        else (0, relA n A low (rdN m T 0 (n - 1) (sk m T k + 1)).2.1, sk m T (rdN m T 0 (n - 1) (sk m T k + 1)).2.2.2))
      else ((rdN m T 0 (n - 1) (sk m T k + 1)).1, A, k))
    else (8 * sk m T k + 1, A, k)
/-- a whole line -/
def lnW (m : Nat) (T : Nat → Int32) (n : Nat) (A : Nat → Int32) (k : Nat) : Nat × (Nat → Int32) × Nat :=
  if (rdN m T 0 (n - 1) k).1 = 0 then lnP m T n (m + 1) A (rdN m T 0 (n - 1) k).2.1 (rdN m T 0 (n - 1) k).2.2.2 else ((rdN m T 0 (n - 1) k).1, A, k)
def lsP (m : Nat) (T : Nat → Int32) (n : Nat) : Nat → (Nat → Int32) → Nat → Nat × (Nat → Int32)
  | 0, A, _ => (0, A)
  | f + 1, A, k =>
    if tb m T (sk m T k) = 59 then
      (if (lnW m T n A (sk m T k + 1)).1 = 0 then lsP m T n f (lnW m T n A (sk m T k + 1)).2.1 (lnW m T n A (sk m T k + 1)).2.2 else ((lnW m T n A (sk m T k + 1)).1, A))
    else if tb m T (sk m T k) = -1 then (0, A) else (8 * sk m T k + 1, A)
def kdI (m : Nat) (T : Nat → Int32) (p : Nat) : Nat := scan (fun q => wdM m T q p) id 5 5 0
/-- a text: the fault or 0, how many, what is above each -/
def txP (m : Nat) (T : Nat → Int32) : Nat × Nat × (Nat → Int32) :=
  if kdI m T (sk m T 0) = 5 then (8 * sk m T 0 + 1, 0, fun _ => 0)
  else if (rdK m T (kdI m T (sk m T 0)) (sk m T 0)).1 = 0 then
    ((lsP m T (rdK m T (kdI m T (sk m T 0)) (sk m T 0)).2.2.1 (m + 1) (rdK m T (kdI m T (sk m T 0)) (sk m T 0)).2.2.2 (rdK m T (kdI m T (sk m T 0)) (sk m T 0)).2.1).1, (rdK m T (kdI m T (sk m T 0)) (sk m T 0)).2.2.1, (lsP m T (rdK m T (kdI m T (sk m T 0)) (sk m T 0)).2.2.1 (m + 1) (rdK m T (kdI m T (sk m T 0)) (sk m T 0)).2.2.2 (rdK m T (kdI m T (sk m T 0)) (sk m T 0)).2.1).2)
  else ((rdK m T (kdI m T (sk m T 0)) (sk m T 0)).1, 0, fun _ => 0)
