/-! ===== what of this watch: who may steer, by what odds, by pairs ===== -/
def allB (f : Nat → Bool) : Nat → Bool
  | 0 => true
  | n + 1 => allB f n && f n
theorem allB_iff {f : Nat → Bool} : ∀ {n : Nat}, allB f n = true ↔ ∀ j, j < n → f j = true
  | 0 => ⟨fun _ j hj => absurd hj (Nat.not_lt_zero j), fun _ => rfl⟩
  | n + 1 => by
    unfold allB
    rw [Bool.and_eq_true, allB_iff]
    constructor
    · rintro ⟨h1, h2⟩ j hj
      by_cases e : j = n
      · rw [e]; exact h2
      · exact h1 j (by omega)
    · intro h
      exact ⟨fun j hj => h j (by omega), h n (by omega)⟩
def prodN (f : Nat → Nat) : Nat → Nat
  | 0 => 1
  | n + 1 => prodN f n * f n
theorem prodN_le {f : Nat → Nat} : ∀ {n : Nat}, (∀ j, j < n → f j ≤ 10) → prodN f n ≤ 10 ^ n
  | 0, _ => Nat.le_refl _
  | n + 1, h => by
    unfold prodN
    rw [Nat.pow_succ]
    exact Nat.mul_le_mul (prodN_le (fun j hj => h j (by omega))) (h n (by omega))
def stbB (o so k s : Nat) : Bool := if o < k then decide (so < s) else decide (so ≤ s)
def slf (h : Hm) (j : Nat) (f : Bool) : Nat := slp (hK h j) (hT h j) (hw h) f
def mxs (h : Hm) (j : Nat) : Nat := max (slf h j true) (slf h j false)
def mns (h : Hm) (j : Nat) : Nat := min (slf h j true) (slf h j false)
def csF (h : Hm) (k j : Nat) : Bool := decide (j = k) || stbB j (mns h j) k (mxs h k)
def csP (h : Hm) (k j : Nat) : Bool := decide (0 < mxs h k) && allB (csF h k) j
theorem csP_s (h : Hm) (k j : Nat) : csP h k (j + 1) = (csP h k j && csF h k j) := by simp [csP, allB, Bool.and_assoc]
def cooF (h : Hm) (k s c j : Nat) : Nat := if j = k then 1 else (if stbB j (slf h j true) k s then c else 0) + (if stbB j (slf h j false) k s then 10 - c else 0)
def coo (h : Hm) (k s c : Nat) : Nat := if s = 0 then 0 else prodN (cooF h k s c) (hn h)
def chn (h : Hm) (k c : Nat) : Nat := c * coo h k (slf h k true) c + (10 - c) * coo h k (slf h k false) c
theorem cooF_le {h : Hm} {k s c j : Nat} (hc : c ≤ 10) : cooF h k s c j ≤ 10 := by
  unfold cooF
  by_cases e : j = k
  · rw [if_pos e]; decide
  · rw [if_neg e]; split <;> split <;> omega
theorem slf_le {b : Nat} {h : Hm} (hv : HV b h) {j : Nat} (hj : j < hn h) (f : Bool) : slf h j f ≤ 203 := by
  have := (hv.2.2.2.2.2 j hj).2.1
  have := slp_le (hK h j) (hT h j) (hw h) f
  unfold slf
  omega
theorem maxN {x y : Nat} (hx : x < 2 ^ 31) (hy : y < 2 ^ 31) : (if nI x < nI y then nI y else nI x) = nI (max x y) := by
  by_cases h : x < y
  · rw [if_pos (nI_lt h hy), Nat.max_eq_right (by omega)]
  · rw [if_neg (nI_nlt (by omega) (by omega)), Nat.max_eq_left (by omega)]
theorem minN {x y : Nat} (hx : x < 2 ^ 31) (hy : y < 2 ^ 31) : (if nI y < nI x then nI y else nI x) = nI (min x y) := by
  by_cases h : y < x
  · rw [if_pos (nI_lt h hx), Nat.min_eq_right (by omega)]
  · rw [if_neg (nI_nlt (by omega) (by omega)), Nat.min_eq_left (by omega)]
theorem fa_and (a b : Nat) : nI a &&& nI b = nI (a &&& b) := by
  apply Int32.toBitVec_inj.1
  show BitVec.ofNat 32 a &&& BitVec.ofNat 32 b = BitVec.ofNat 32 (a &&& b)
  apply BitVec.eq_of_getLsbD_eq
  intro i hi
  simp [hi]
theorem fa_or (a b : Nat) : nI a ||| nI b = nI (a ||| b) := by
  apply Int32.toBitVec_inj.1
  show BitVec.ofNat 32 a ||| BitVec.ofNat 32 b = BitVec.ofNat 32 (a ||| b)
  apply BitVec.eq_of_getLsbD_eq
  intro i hi
  simp [hi]
theorem fa_xor (a b : Nat) : nI a ^^^ nI b = nI (a ^^^ b) := by
  apply Int32.toBitVec_inj.1
  show BitVec.ofNat 32 a ^^^ BitVec.ofNat 32 b = BitVec.ofNat 32 (a ^^^ b)
  apply BitVec.eq_of_getLsbD_eq
  intro i hi
  simp [hi]
theorem shl_n {x a : Nat} (ha : a < 32) (h : x * 2 ^ a < 2 ^ 32) : nI x <<< (nI a &&& 31) = nI (x * 2 ^ a) := pk_shlN _ a (sh_l a ha) h
theorem pow_le6 {a : Nat} (ha : a < 6) : 2 ^ a ≤ 32 := by
  have : 2 ^ a ≤ 2 ^ 5 := Nat.pow_le_pow_right (by decide) (by omega)
  omega
/-- the set f, but for a and b, who are in it as the bits of q say -/
def prS (f a b q : Nat) : Nat := (f &&& (2 ^ a ^^^ 4294967295) &&& (2 ^ b ^^^ 4294967295)) ||| (q % 2) * 2 ^ a ||| (q / 2 % 2) * 2 ^ b
theorem prS_ok {a b q f : Nat} (ha : a < 6) (hb : b < 6) (hq : q < 4) (hf : f < 64) : (nI f &&& ((1 : Int32) <<< (nI a &&& 31) ^^^ -1) &&& ((1 : Int32) <<< (nI b &&& 31) ^^^ -1) ||| (nI q &&& 1) <<< (nI a &&& 31) ||| (nI q >>> ((1 : Int32) &&& 31) &&& 1) <<< (nI b &&& 31)) = nI (prS f a b q) ∧ prS f a b q < 64 := by
  have pa := pow_le6 ha
  have pb := pow_le6 hb
  have e1 : (1 : Int32) <<< (nI a &&& 31) = nI (2 ^ a) := by
    have := shl_n (x := 1) (a := a) (by omega) (by omega)
    rw [Nat.one_mul] at this
    exact this
  have e2 : (1 : Int32) <<< (nI b &&& 31) = nI (2 ^ b) := by
    have := shl_n (x := 1) (a := b) (by omega) (by omega)
    rw [Nat.one_mul] at this
    exact this
  have em : (-1 : Int32) = nI 4294967295 := by decide
  have q0 : nI q &&& 1 = nI (q % 2) := pk_andN (by omega) 1 (by decide)
  have q1 : nI q >>> ((1 : Int32) &&& 31) &&& 1 = nI (q / 2 % 2) := by
    have := shr_b (g := q) (j := 1) (by omega) (by decide)
    rw [Nat.pow_one] at this
    exact this
  have m0 : q % 2 * 2 ^ a ≤ 32 := Nat.le_trans (Nat.mul_le_mul_right _ (by omega : q % 2 ≤ 1)) (by omega)
  have m1 : q / 2 % 2 * 2 ^ b ≤ 32 := Nat.le_trans (Nat.mul_le_mul_right _ (by omega : q / 2 % 2 ≤ 1)) (by omega)
  constructor
  · rw [e1, e2, em, q0, q1, shl_n (by omega) (by omega), shl_n (by omega) (by omega), fa_xor, fa_xor, fa_and, fa_and, fa_or, fa_or]
    rfl
  · unfold prS
    refine Nat.or_lt_two_pow (n := 6) (Nat.or_lt_two_pow (n := 6) ?_ (by omega)) (by omega)
    exact Nat.lt_of_le_of_lt Nat.and_le_left (Nat.lt_of_le_of_lt Nat.and_le_left hf)
def eatB (h : Hm) (a b q : Nat) : Bool := !(decide (stw h (prS (hf h) a b q) = a + 1) && !decide (stw h (prS (hf h) a b (q ^^^ 1)) = a + 1)) && !(decide (stw h (prS (hf h) a b q) = b + 1) && !decide (stw h (prS (hf h) a b (q ^^^ 2)) = b + 1))
theorem x4 : ∀ q, q < 4 → nI q ^^^ 1 = nI (q ^^^ 1) ∧ nI q ^^^ 2 = nI (q ^^^ 2) ∧ q ^^^ 1 < 4 ∧ q ^^^ 2 < 4 := by decide
