/-! ===== class and reference do the same: canNot, eat ===== -/
theorem bst_inv (f : Nat → Nat) : ∀ n, (bst f n = (0, 0) ∧ ∀ j, j < n → f j = 0) ∨ ∃ a, a < n ∧ bst f n = (a + 1, f a) ∧ 0 < f a ∧ (∀ j, j < a → f j < f a) ∧ ∀ j, j < n → f j ≤ f a
  | 0 => Or.inl ⟨rfl, fun j hj => absurd hj (Nat.not_lt_zero j)⟩
  | n + 1 => by
    rcases bst_inv f n with ⟨h1, h2⟩ | ⟨a, h1, h2, h3, h4, h5⟩
    · by_cases c : 0 < f n
      · refine Or.inr ⟨n, Nat.lt_succ_self n, bst_s (by rw [h1]; exact c), c, fun j hj => by rw [h2 j hj]; exact c, fun j hj => ?_⟩
        by_cases e : j = n
        · rw [e]; exact Nat.le_refl _
        · rw [h2 j (by omega)]; omega
      · refine Or.inl ⟨by rw [bst_n (by rw [h1]; exact c), h1], fun j hj => ?_⟩
        by_cases e : j = n
        · rw [e]; omega
        · exact h2 j (by omega)
    · by_cases c : f a < f n
      · refine Or.inr ⟨n, Nat.lt_succ_self n, bst_s (by rw [h2]; exact c), by omega, fun j hj => Nat.lt_of_le_of_lt (h5 j hj) c, fun j hj => ?_⟩
        by_cases e : j = n
        · rw [e]; exact Nat.le_refl _
        · have := h5 j (by omega); omega
      · refine Or.inr ⟨a, by omega, by rw [bst_n (by rw [h2]; exact c), h2], h3, h4, fun j hj => ?_⟩
        by_cases e : j = n
        · rw [e]; omega
        · exact h5 j (by omega)
theorem bst_iff (f : Nat → Nat) (n a : Nat) : (bst f n).1 = a + 1 ↔ a < n ∧ 0 < f a ∧ (∀ j, j < a → f j < f a) ∧ ∀ j, j < n → f j ≤ f a := by
  rcases bst_inv f n with ⟨h1, h2⟩ | ⟨c, h1, h2, h3, h4, h5⟩
  · rw [h1]
    refine ⟨fun h => absurd h.symm (Nat.succ_ne_zero a), fun ⟨q1, q2, _⟩ => ?_⟩
    have := h2 a q1
    omega
  · rw [h2]
    constructor
    · intro h
      have e : c = a := Nat.succ.inj h
      subst e
      exact ⟨h1, h3, h4, h5⟩
    · rintro ⟨q1, q2, q3, q4⟩
      show c + 1 = a + 1
      rcases Nat.lt_trichotomy c a with x | x | x
      · have := q3 c x; have := h5 a q1; omega
      · rw [x]
      · have := h4 a x; have := q4 c h1; omega
theorem stw_iff (h : Hm) (g a : Nat) : stw h g = a + 1 ↔ a < hn h ∧ 0 < sly h g a ∧ (∀ j, j < a → sly h g j < sly h g a) ∧ ∀ j, j < hn h → sly h g j ≤ sly h g a := bst_iff _ _ _
theorem sly_slf (h : Hm) (g j : Nat) : sly h g j = slf h j (g.testBit j) := rfl
theorem slf_b (h : Hm) (j : Nat) (f : Bool) : mns h j ≤ slf h j f ∧ slf h j f ≤ mxs h j := by
  unfold mns mxs
  cases f <;> omega
theorem hn_pasN (h : Hm) : ∀ m, hn (pasN h m) = hn h
  | 0 => rfl
  | m + 1 => hn_pasN h m
theorem csR_o (h : Hm) {a : Nat} (ha : a < hn h) : anyB (csR h a) (2 ^ hn h) = csP h a (hn h) := by
  rw [Bool.eq_iff_iff, anyB_iff]
  unfold csP
  rw [Bool.and_eq_true, allB_iff, decide_eq_true_iff]
  constructor
  · rintro ⟨g, hg, hc⟩
    obtain ⟨c1, c2, c3, c4⟩ := (stw_iff h g a).mp (of_decide_eq_true hc)
    have m1 := slf_b h a (g.testBit a)
    rw [sly_slf] at c2
    refine ⟨by omega, fun j hj => ?_⟩
    unfold csF
    by_cases e : j = a
    · rw [decide_eq_true e, Bool.true_or]
    · have m2 := slf_b h j (g.testBit j)
      unfold stbB
      rw [Bool.or_eq_true]
      refine Or.inr ?_
      by_cases e2 : j < a
      · rw [if_pos e2]
        have := c3 j e2
        rw [sly_slf, sly_slf] at this
        exact decide_eq_true (by omega)
      · rw [if_neg e2]
        have := c4 j hj
        rw [sly_slf, sly_slf] at this
        exact decide_eq_true (by omega)
  · rintro ⟨c1, c2⟩
    refine ⟨bitsN (fun j => if j = a then decide (slf h j false ≤ slf h j true) else decide (slf h j true ≤ slf h j false)) (hn h), bitsN_lt _ _, decide_eq_true ((stw_iff h _ a).mpr ?_)⟩
    have ea : sly h (bitsN (fun j => if j = a then decide (slf h j false ≤ slf h j true) else decide (slf h j true ≤ slf h j false)) (hn h)) a = mxs h a := by
      rw [sly_slf, bitsN_bit ha, if_pos rfl]
      unfold mxs
      by_cases e : slf h a false ≤ slf h a true
      · rw [decide_eq_true e]; omega
      · rw [decide_eq_false e]; omega
    have eo : ∀ j, j < hn h → j ≠ a → sly h (bitsN (fun j => if j = a then decide (slf h j false ≤ slf h j true) else decide (slf h j true ≤ slf h j false)) (hn h)) j = mns h j := by
      intro j hj hne
      rw [sly_slf, bitsN_bit hj, if_neg hne]
      unfold mns
      by_cases e : slf h j true ≤ slf h j false
      · rw [decide_eq_true e]; omega
      · rw [decide_eq_false e]; omega
    have key : ∀ j, j < hn h → j ≠ a → (j < a → mns h j < mxs h a) ∧ mns h j ≤ mxs h a := by
      intro j hj hne
      have q := c2 j hj
      unfold csF stbB at q
      rw [decide_eq_false hne, Bool.false_or] at q
      by_cases e2 : j < a
      · rw [if_pos e2] at q
        have := of_decide_eq_true q
        exact ⟨fun _ => this, by omega⟩
      · rw [if_neg e2] at q
        have := of_decide_eq_true q
        exact ⟨fun x => absurd x e2, this⟩
    refine ⟨ha, by rw [ea]; exact c1, fun j hj => ?_, fun j hj => ?_⟩
    · rw [ea, eo j (by omega) (by omega)]; exact (key j (by omega) (by omega)).1 hj
    · by_cases e : j = a
      · rw [e]; exact Nat.le_refl _
      · rw [ea, eo j hj e]; exact (key j hj e).2
theorem rCanNot_o {b : Nat} {s : Ab} (hV : AV b s) (k : Int32) : rCanNot s k = oCanNot s k := by
  unfold rCanNot oCanNot
  split
  · next hk =>
    rw [bitsN_c (f := cnR (vh (aV s)) k.toNatClampNeg) (g := cnF (vh (aV s)) k.toNatClampNeg) (fun m _ => ?_)]
    unfold cnR cnF
    have hl := isH_lt hV hk
    rw [← hn_pasN (vh (aV s)) m] at hl ⊢
    rw [csR_o _ hl]
  · rfl
theorem pw_bit {c a j : Nat} (hc : c < 2) : (c * 2 ^ a).testBit j = (decide (c = 1) && decide (a = j)) := by
  rcases (by omega : c = 0 ∨ c = 1) with rfl | rfl
  · rw [Nat.zero_mul, Nat.zero_testBit]; rfl
  · rw [Nat.one_mul, Nat.testBit_two_pow]; rfl
theorem prS_bit {f a b q j : Nat} (hj : j < 6) : (prS f a b q).testBit j = (((f.testBit j && !decide (a = j)) && !decide (b = j)) || (decide (q % 2 = 1) && decide (a = j)) || (decide (q / 2 % 2 = 1) && decide (b = j))) := by
  unfold prS
  have e : (4294967295 : Nat).testBit j = true := by
    rw [show (4294967295 : Nat) = 2 ^ 32 - 1 from rfl, Nat.testBit_two_pow_sub_one]; exact decide_eq_true (by omega)
  rw [Nat.testBit_or, Nat.testBit_or, Nat.testBit_and, Nat.testBit_and, Nat.testBit_xor, Nat.testBit_xor, e, Nat.testBit_two_pow, Nat.testBit_two_pow, pw_bit (Nat.mod_lt _ (by decide)), pw_bit (Nat.mod_lt _ (by decide)), Bool.xor_true, Bool.xor_true]
theorem sxy_bit {h : Hm} {a b x y j : Nat} (hj : j < hn h) (hx : x < 2) (hy : y < 2) : (sxy h a b x y).testBit j = (((decide (j ≠ a) && decide (j ≠ b)) && (hf h).testBit j) || (decide (x = 1) && decide (a = j)) || (decide (y = 1) && decide (b = j))) := by
  unfold sxy oth
  rw [Nat.testBit_or, Nat.testBit_or, bitsN_bit hj, pw_bit hx, pw_bit hy]
  rfl
theorem stw_sxy {h : Hm} {a b q x y : Nat} (h6 : hn h ≤ 6) (hx : x = q % 2) (hy : y = q / 2 % 2) : stw h (sxy h a b x y) = stw h (prS (hf h) a b q) := by
  refine stw_cong (fun j hj => ?_)
  rw [sxy_bit hj (by omega) (by omega), prS_bit (by omega), hx, hy]
  have e1 : decide (j ≠ a) = !decide (a = j) := by by_cases e : a = j <;> simp [e, Ne.symm, eq_comm]
  have e2 : decide (j ≠ b) = !decide (b = j) := by by_cases e : b = j <;> simp [e, Ne.symm, eq_comm]
  rw [e1, e2]
  cases (hf h).testBit j <;> cases decide (a = j) <;> cases decide (b = j) <;> rfl
theorem etF_o {h : Hm} {a b q : Nat} (h6 : hn h ≤ 6) (hq : q < 4) : etF h a b q = eatB h a b q := by
  unfold etF eatB
  rw [stw_sxy (q := q) h6 rfl (by omega)]
  have x1 : q ^^^ 1 < 4 ∧ 1 - q % 2 = (q ^^^ 1) % 2 ∧ q / 2 = (q ^^^ 1) / 2 % 2 := by
    rcases (by omega : q = 0 ∨ q = 1 ∨ q = 2 ∨ q = 3) with rfl | rfl | rfl | rfl <;> decide
  have x2 : q ^^^ 2 < 4 ∧ q % 2 = (q ^^^ 2) % 2 ∧ 1 - q / 2 = (q ^^^ 2) / 2 % 2 := by
    rcases (by omega : q = 0 ∨ q = 1 ∨ q = 2 ∨ q = 3) with rfl | rfl | rfl | rfl <;> decide
  rw [stw_sxy (q := q ^^^ 1) h6 x1.2.1 x1.2.2, stw_sxy (q := q ^^^ 2) h6 x2.2.1 x2.2.2, Bool.not_and, Bool.not_and, Bool.not_not, Bool.not_not]
theorem rEat_o {b : Nat} {s : Ab} (hV : AV b s) (k l : Int32) : rEat s k l = oEat s k l := by
  unfold rEat oEat
  split
  · rw [bitsN_c (f := etF (vh (aV s)) k.toNatClampNeg l.toNatClampNeg) (g := eatB (vh (aV s)) k.toNatClampNeg l.toNatClampNeg) (fun q hq => etF_o hV.1.1.1 hq)]
  · rfl
