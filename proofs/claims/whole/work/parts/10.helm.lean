/-! ===== a helm: crew n, kinds K, tired T, nods N, place p, watch w, fed f (bits) ===== -/
abbrev Hm : Type := Nat × (Nat → Nat) × (Nat → Nat) × (Nat → Int) × Int × Nat × Nat
def hn (h : Hm) : Nat := h.1
def hK (h : Hm) : Nat → Nat := h.2.1
def hT (h : Hm) : Nat → Nat := h.2.2.1
def hN (h : Hm) : Nat → Int := h.2.2.2.1
def hp (h : Hm) : Int := h.2.2.2.2.1
def hw (h : Hm) : Nat := h.2.2.2.2.2.1
def hf (h : Hm) : Nat := h.2.2.2.2.2.2
/-- within b watches from the beginning -/
def HV (b : Nat) (h : Hm) : Prop := hn h ≤ 6 ∧ hf h < 2 ^ hn h ∧ hw h ≤ b ∧ -(3 * (b : Int)) ≤ hp h ∧ hp h ≤ 3 * (b : Int) ∧ ∀ j, j < hn h → hK h j < 6 ∧ hT h j ≤ 99 ∧ -3 ≤ hN h j ∧ hN h j ≤ 3
/-- the class's helm at the address a holds h -/
def HR (i : MI0) (a : Nat) (h : Hm) : Prop := i a 4 = nI (hn h) ∧ i a 5 = iN (hp h) ∧ i a 6 = nI (hw h) ∧ i a 7 = nI (hf h) ∧ ∀ j, j < hn h → i (a + 1) j = nI (hK h j) ∧ i (a + 2) j = nI (hT h j) ∧ i (a + 3) j = iN (hN h j)
def HS (S : MS) (X a : Nat) : Prop := sT S a = (4, 0) ∧ sT S (a + 1) = (13, 6) ∧ sT S (a + 2) = (13, 6) ∧ sT S (a + 3) = (13, 6) ∧ sR S a 0 = some (X + 1) ∧ sR S a 1 = some (a + 1) ∧ sR S a 2 = some (a + 2) ∧ sR S a 3 = some (a + 3)
def KS (S : MS) (X : Nat) : Prop := sT S (X + 1) = (16, 6) ∧ (sR S (X + 1) 0 = some (X + 2) ∧ sR S (X + 1) 1 = some (X + 3) ∧ sR S (X + 1) 2 = some (X + 4) ∧ sR S (X + 1) 3 = some (X + 5) ∧ sR S (X + 1) 4 = some (X + 6) ∧ sR S (X + 1) 5 = some (X + 7)) ∧ sT S (X + 2) = (7, 0) ∧ sT S (X + 3) = (1, 0) ∧ sT S (X + 4) = (8, 0) ∧ sT S (X + 5) = (2, 0) ∧ sT S (X + 6) = (5, 0) ∧ sT S (X + 7) = (0, 0)
/-- how sleepy j is in this watch, if g are fed -/
def sly (h : Hm) (g j : Nat) : Nat := slp (hK h j) (hT h j) (hw h) (g.testBit j)
/-- the first of the greatest above 0: who (one more), how much -/
def bst (f : Nat → Nat) : Nat → Nat × Nat
  | 0 => (0, 0)
  | j + 1 => if (bst f j).2 < f j then (j + 1, f j) else bst f j
theorem bst_le (f : Nat → Nat) : ∀ n, (bst f n).1 ≤ n
  | 0 => Nat.le_refl _
  | n + 1 => by
    unfold bst
    split
    · exact Nat.le_refl _
    · exact Nat.le_succ_of_le (bst_le f n)
theorem bst_mo {f : Nat → Nat} {B : Nat} : ∀ {n : Nat}, (∀ j, j < n → f j ≤ B) → (bst f n).2 ≤ B
  | 0, _ => Nat.zero_le _
  | n + 1, h => by
    unfold bst
    split
    · exact h n (Nat.lt_succ_self n)
    · exact bst_mo (fun j hj => h j (Nat.lt_succ_of_lt hj))
theorem bst_cong {f g : Nat → Nat} : ∀ {n : Nat}, (∀ j, j < n → f j = g j) → bst f n = bst g n
  | 0, _ => rfl
  | n + 1, h => by
    unfold bst
    rw [bst_cong (fun j hj => h j (Nat.lt_succ_of_lt hj)), h n (Nat.lt_succ_self n)]
/-- who steers in this watch, if g are fed -/
def stw (h : Hm) (g : Nat) : Nat := (bst (sly h g) (hn h)).1
theorem stw_le (h : Hm) (g : Nat) : stw h g ≤ hn h := bst_le _ _
/-- a watch goes by in which w steers -/
def goH (h : Hm) (w : Nat) : Hm := (hn h, hK h, (fun j => if w = j + 1 then hT h j - 4 else min 99 (hT h j + mor (hK h j))), hN h, (if w = 0 then hp h else hp h + hN h (w - 1)), hw h + 1, 0)
def pas (h : Hm) : Hm := goH h (stw h (hf h))
theorem mor_le (k : Nat) : mor k ≤ 2 := by
  unfold mor
  split
  · omega
  · split <;> omega
theorem goH_V {b : Nat} {h : Hm} {w : Nat} (hv : HV b h) (hw' : w ≤ hn h) : HV (b + 1) (goH h w) := by
  obtain ⟨h1, h2, h3, h4, h5, h6⟩ := hv
  refine ⟨h1, Nat.two_pow_pos _, Nat.succ_le_succ h3, ?_, ?_, fun j hj => ?_⟩
  · show -(3 * ((b + 1 : Nat) : Int)) ≤ (if w = 0 then hp h else hp h + hN h (w - 1))
    split
    · omega
    · have := h6 (w - 1) (by omega)
      omega
  · show (if w = 0 then hp h else hp h + hN h (w - 1)) ≤ 3 * ((b + 1 : Nat) : Int)
    split
    · omega
    · have := h6 (w - 1) (by omega)
      omega
  · obtain ⟨q1, q2, q3⟩ := h6 j hj
    refine ⟨q1, ?_, q3⟩
    show (if w = j + 1 then hT h j - 4 else min 99 (hT h j + mor (hK h j))) ≤ 99
    split <;> omega
theorem pas_V {b : Nat} {h : Hm} (hv : HV b h) : HV (b + 1) (pas h) := goH_V hv (stw_le _ _)
theorem HV.mono {b c : Nat} {h : Hm} (hv : HV b h) (hbc : b ≤ c) : HV c h := by
  obtain ⟨h1, h2, h3, h4, h5, h6⟩ := hv
  exact ⟨h1, h2, by omega, by omega, by omega, h6⟩
theorem HR.keep {i i' : MI0} {a : Nat} {h : Hm} (hr : HR i a h) (e0 : i' a = i a) (e1 : i' (a + 1) = i (a + 1)) (e2 : i' (a + 2) = i (a + 2)) (e3 : i' (a + 3) = i (a + 3)) : HR i' a h := by
  unfold HR
  rw [e0, e1, e2, e3]
  exact hr
theorem sly_le {b : Nat} {h : Hm} (hv : HV b h) (g : Nat) {j : Nat} (hj : j < hn h) : sly h g j ≤ 203 := by
  have := (hv.2.2.2.2.2 j hj).2.1
  have := slp_le (hK h j) (hT h j) (hw h) (g.testBit j)
  unfold sly
  omega
theorem bst_203 {b : Nat} {h : Hm} (hv : HV b h) (g : Nat) {j : Nat} (hj : j ≤ hn h) : (bst (sly h g) j).2 ≤ 203 := bst_mo (fun k hk => sly_le hv g (by omega))
theorem sh_l : ∀ n, n < 32 → ((nI n &&& 31).toBitVec.smod 32).toNat = n := by decide +kernel
theorem shr_b {g j : Nat} (hg : g < 2 ^ 31) (hj : j < 32) : nI g >>> (nI j &&& 31) &&& 1 = nI (g / 2 ^ j % 2) := by
  rw [pk_shrN hg _ j (sh_l j hj), pk_andN (Nat.lt_of_le_of_lt (Nat.div_le_self _ _) (by omega)) 1 (by decide)]
theorem hold_b {g j : Nat} (hg : g < 2 ^ 31) (hj : j < 32) : b1 (nI g >>> (nI j &&& 31) &&& 1 = 1) = b2i (g.testBit j) := by
  rw [shr_b hg hj]
  have e : g.testBit j = decide (g / 2 ^ j % 2 = 1) := Nat.testBit_eq_decide_div_mod_eq
  have hm : g / 2 ^ j % 2 = 0 ∨ g / 2 ^ j % 2 = 1 := by omega
  rw [e]
  rcases hm with h | h
  · rw [h]; decide
  · rw [h]; decide
theorem bst_s {f : Nat → Nat} {j : Nat} (h : (bst f j).2 < f j) : bst f (j + 1) = (j + 1, f j) := by rw [bst, if_pos h]
theorem bst_n {f : Nat → Nat} {j : Nat} (h : ¬ (bst f j).2 < f j) : bst f (j + 1) = bst f j := by rw [bst, if_neg h]
/-- go's loop, j of the crew done -/
def GI (i i' : MI0) (a : Nat) (h : Hm) (w j : Nat) : Prop := (∀ q, q ≠ a → q ≠ a + 2 → i' q = i q) ∧ (∀ k, k ≠ 5 → i' a k = i a k) ∧ i' a 5 = iN (if w = 0 ∨ j < w then hp h else hp h + hN h (w - 1)) ∧ (∀ q, q < j → i' (a + 2) q = nI (hT (goH h w) q)) ∧ ∀ q, j ≤ q → i' (a + 2) q = i (a + 2) q
theorem GI_0 {i : MI0} {a : Nat} {h : Hm} {w : Nat} (h5 : i a 5 = iN (hp h)) : GI i i a h w 0 := by
  refine ⟨fun _ _ _ => rfl, fun _ _ => rfl, ?_, fun q hq => absurd hq (Nat.not_lt_zero q), fun _ _ => rfl⟩
  rw [if_pos (by omega)]
  exact h5
theorem GI_ne {i i' : MI0} {S : MS} {a : Nat} {h : Hm} {w j : Nat} {v : Int32} (hg : GI i i' a h w j) (hw : ¬ w = j + 1) (hv : v = nI (min 99 (hT h j + mor (hK h j)))) : GI i (mi (wI (i', S) (a + 2) j v)) a h w (j + 1) := by
  obtain ⟨g1, g2, g3, g4, g5⟩ := hg
  refine ⟨fun q h1 h2 => ?_, fun k hk => ?_, ?_, fun q hq => ?_, fun q hq => ?_⟩
  · rw [← g1 q h1 h2]; funext k; exact rI_a _ _ _ h2
  · rw [rI_a _ _ _ (by omega)]; exact g2 k hk
  · rw [rI_a _ _ _ (by omega)]
    show i' a 5 = _
    rw [g3]
    congr 1
    by_cases h0 : w = 0 ∨ j < w
    · rw [if_pos h0, if_pos (by omega)]
    · rw [if_neg h0, if_neg (by omega)]
  · by_cases hqj : q = j
    · subst hqj
      rw [rI_s, hv]
      show _ = nI (if w = q + 1 then _ else _)
      rw [if_neg hw]
    · rw [rI_k _ _ _ hqj]
      exact g4 q (by omega)
  · rw [rI_k _ _ _ (by omega)]
    exact g5 q (by omega)
theorem GI_eq {i i' : MI0} {S : MS} {a : Nat} {h : Hm} {w j : Nat} {v u : Int32} (hg : GI i i' a h w j) (hw : w = j + 1) (hv : v = nI (hT h j - 4)) (hu : u = iN (hp h + hN h j)) : GI i (mi (wI (wI (i', S) a 5 u) (a + 2) j v)) a h w (j + 1) := by
  obtain ⟨g1, g2, g3, g4, g5⟩ := hg
  refine ⟨fun q h1 h2 => ?_, fun k hk => ?_, ?_, fun q hq => ?_, fun q hq => ?_⟩
  · rw [← g1 q h1 h2]; funext k; rw [rI_a _ _ _ h2, rI_a _ _ _ h1]; rfl
  · rw [rI_a _ _ _ (by omega), rI_k _ _ _ hk]; exact g2 k hk
  · rw [rI_a _ _ _ (by omega), rI_s, hu, if_neg (by omega), hw]
    rfl
  · by_cases hqj : q = j
    · subst hqj
      rw [rI_s, hv]
      show _ = nI (if w = q + 1 then _ else _)
      rw [if_pos hw]
    · rw [rI_k _ _ _ hqj, rI_a _ _ _ (by omega)]
      exact g4 q (by omega)
  · rw [rI_k _ _ _ (by omega), rI_a _ _ _ (by omega)]
    exact g5 q (by omega)
theorem GI_end {i i' : MI0} {S : MS} {a : Nat} {h : Hm} {w : Nat} {u z : Int32} (hr : HR i a h) (hw7 : w ≤ hn h) (hg : GI i i' a h w (hn h)) (hz : z = 0) (hu : u = nI (hw h + 1)) : HR (mi (wI (wI (i', S) a 7 z) a 6 u)) a (goH h w) ∧ ∀ q, q ≠ a → q ≠ a + 2 → mi (wI (wI (i', S) a 7 z) a 6 u) q = i q := by
  obtain ⟨g1, g2, g3, g4, g5⟩ := hg
  obtain ⟨r4, r5, r6, r7, rj⟩ := hr
  refine ⟨⟨?_, ?_, ?_, ?_, fun j hj => ⟨?_, ?_, ?_⟩⟩, fun q h1 h2 => ?_⟩
  · rw [rI_k _ _ _ (by decide), rI_k _ _ _ (by decide)]
    exact (g2 4 (by decide)).trans r4
  · rw [rI_k _ _ _ (by decide), rI_k _ _ _ (by decide)]
    refine g3.trans ?_
    show iN _ = iN (if w = 0 then _ else _)
    by_cases h0 : w = 0
    · rw [if_pos h0, if_pos (Or.inl h0)]
    · rw [if_neg h0, if_neg (by omega)]
  · rw [rI_s, hu]; rfl
  · rw [rI_k _ _ _ (by decide), rI_s, hz]; rfl
  · rw [rI_a _ _ _ (by omega), rI_a _ _ _ (by omega)]
    show i' (a + 1) j = _
    rw [g1 _ (by omega) (by omega)]
    exact (rj j hj).1
  · rw [rI_a _ _ _ (by omega), rI_a _ _ _ (by omega)]
    exact g4 j hj
  · rw [rI_a _ _ _ (by omega), rI_a _ _ _ (by omega)]
    show i' (a + 3) j = _
    rw [g1 _ (by omega) (by omega)]
    exact (rj j hj).2.2
  · rw [← g1 q h1 h2]; funext k; rw [rI_a _ _ _ h1, rI_a _ _ _ h1]; rfl
