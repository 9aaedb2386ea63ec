/-! ===== class and reference do the same: peas ===== -/
/-- as many peas, and the same in the first n watches -/
def PEq (n : Nat) (s t : PSt) : Prop := (s = none ∧ t = none) ∨ ∃ c w w', s = some (c, w) ∧ t = some (c, w') ∧ ∀ k, k < n → w k = w' k
theorem PEq.ls {n : Nat} {s t : PSt} (h : PEq n s t) (c : Nat) : lsO c s = lsO c t := by
  rcases h with ⟨h1, h2⟩ | ⟨c', w, w', h1, h2, -⟩ <;> rw [h1, h2] <;> rfl
theorem stpN_c {h : Hm} {w w' : Nat → Nat} : ∀ {k : Nat}, (∀ j, j < k → w j = w' j) → stpN h w k = stpN h w' k
  | 0, _ => rfl
  | k + 1, e => by
    show stp (stpN h w k) (w k) = stp (stpN h w' k) (w' k)
    rw [stpN_c (fun j hj => e j (by omega)), e k (by omega)]
theorem dgt_0 {B y m : Nat} (hm : m < B) : dgt B (y * B + m) 0 = m := by
  unfold dgt
  rw [Nat.pow_zero, Nat.div_one, Nat.mul_comm, Nat.mul_add_mod, Nat.mod_eq_of_lt hm]
theorem dgt_s {B y m : Nat} (hm : m < B) (t : Nat) : dgt B (y * B + m) (t + 1) = dgt B y t := by
  unfold dgt
  rw [Nat.pow_succ, Nat.mul_comm (B ^ t) B, ← Nat.div_div_eq_div_mul]
  rw [show (y * B + m) / B = y from ?_]
  rw [Nat.mul_comm y B, Nat.mul_add_div (by omega), Nat.div_eq_of_lt hm, Nat.add_zero]
theorem cwN_s {B y m : Nat} (hm : m < B) : ∀ e, cwN B (y * B + m) (e + 1) = cwN B y e + pk1 m
  | 0 => by
    show 0 + pk1 (dgt B (y * B + m) 0) = 0 + pk1 m
    rw [dgt_0 hm]
  | e + 1 => by
    show cwN B (y * B + m) (e + 1) + pk1 (dgt B (y * B + m) (e + 1)) = cwN B y e + pk1 (dgt B y e) + pk1 m
    rw [cwN_s hm e, dgt_s hm]
    omega
theorem ar1 (y B Q m : Nat) : y * (Q * B) + m * Q = (y * B + m) * Q := by rw [Nat.add_mul, Nat.mul_assoc, Nat.mul_comm Q B]
theorem ar2 (y B Q : Nat) : y * (Q * B) + B * Q = (y + 1) * (Q * B) := by rw [Nat.add_mul y 1, Nat.one_mul, Nat.mul_comm B Q]
theorem srv_rp {h : Hm} {p : Int} {n : Nat} : ∀ (r e y C : Nat) (W : Nat → Nat) (st : PSt), e + r = n → (∀ j, j < e → W j = dgt (hn h + 1) y (e - 1 - j)) → C = cwN (hn h + 1) y e → PEq n (rpS h p n (y * (hn h + 1) ^ r)) st → PEq n (rpS h p n ((y + 1) * (hn h + 1) ^ r)) (srv p r e (stpN h W e) C W st)
  | 0, e, y, C, W, st, he, hW, hC, hs => by
    have he : e = n := he
    subst he
    rw [Nat.pow_zero, Nat.mul_one] at hs ⊢
    have hw : ∀ k, k < e → lw (hn h + 1) e y k = W k := fun k hk => (hW k hk).symm
    unfold rpS srv
    rw [stpN_c hw, hs.ls, ← hC, Bool.and_comm]
    split
    · exact Or.inr ⟨C, _, W, rfl, rfl, hw⟩
    · exact hs
  | r + 1, e, y, C, W, st, he, hW, hC, hs => by
    have hB : hn (stpN h W e) + 1 = hn h + 1 := by rw [stpN_n]
    unfold srv
    rw [hB]
    have key : ∀ m, m ≤ hn h + 1 → PEq n (rpS h p n (y * (hn h + 1) ^ (r + 1) + m * (hn h + 1) ^ r)) (srvL (fun k s => srv p r (e + 1) (stp (stpN h W e) k) (C + pk1 k) (updW W e k) s) m st) := by
      intro m
      induction m with
      | zero => intro _; rw [Nat.zero_mul, Nat.add_zero]; exact hs
      | succ m ih =>
        intro hm
        have i0 := ih (by omega)
        have ey : y * (hn h + 1) ^ (r + 1) + m * (hn h + 1) ^ r = (y * (hn h + 1) + m) * (hn h + 1) ^ r := by
          rw [Nat.pow_succ]; exact ar1 _ _ _ _
        have ey2 : y * (hn h + 1) ^ (r + 1) + (m + 1) * (hn h + 1) ^ r = (y * (hn h + 1) + m + 1) * (hn h + 1) ^ r := by
          rw [Nat.pow_succ]; exact ar1 _ _ _ _
        rw [ey] at i0
        rw [ey2]
        have es : stp (stpN h W e) m = stpN h (updW W e m) (e + 1) := by
          show _ = stp (stpN h (updW W e m) e) (updW W e m e)
          rw [show updW W e m e = m from if_pos rfl, stpN_c (w := updW W e m) (w' := W) (fun j hj => if_neg (by omega))]
        show PEq n _ (srv p r (e + 1) (stp (stpN h W e) m) (C + pk1 m) (updW W e m) _)
        rw [es]
        refine srv_rp r (e + 1) (y * (hn h + 1) + m) (C + pk1 m) (updW W e m) _ (by omega) (fun j hj => ?_) ?_ i0
        · by_cases c : j = e
          · rw [c, show updW W e m e = m from if_pos rfl, show e + 1 - 1 - e = 0 by omega, dgt_0 (by omega)]
          · rw [show updW W e m j = W j from if_neg c, hW j (by omega), show e + 1 - 1 - j = (e - 1 - j) + 1 by omega, dgt_s (by omega)]
        · rw [cwN_s (by omega), hC]
    have k0 := key (hn h + 1) (Nat.le_refl _)
    rw [show y * (hn h + 1) ^ (r + 1) + (hn h + 1) * (hn h + 1) ^ r = (y + 1) * (hn h + 1) ^ (r + 1) by rw [Nat.pow_succ]; exact ar2 _ _ _] at k0
    exact k0
theorem bestP_o (h : Hm) (p : Int) (n : Nat) : PEq n (rpS h p n ((hn h + 1) ^ n)) (bestP h p n) := by
  have q := srv_rp (h := h) (p := p) (n := n) n 0 0 0 (fun _ => 0) none (by omega) (fun j hj => absurd hj (Nat.not_lt_zero j)) rfl (by rw [Nat.zero_mul]; exact Or.inl ⟨rfl, rfl⟩)
  rw [Nat.zero_add, Nat.one_mul] at q
  exact q
theorem peaA_o {s t : PSt} {n i : Int32} (h : PEq n.toNatClampNeg s t) (hi : (-1 : Int32) ≤ i) (hn : (1 : Int32) ≤ n ∧ n ≤ 4) : peaA s n i = peaA t n i := by
  rcases h with ⟨h1, h2⟩ | ⟨c, w, w', h1, h2, h3⟩
  · rw [h1, h2]
  · rw [h1, h2]
    show (if i = -1 then nI c else if n ≤ i then -5 else nI (dig (w i.toNatClampNeg))) = (if i = -1 then nI c else if n ≤ i then -5 else nI (dig (w' i.toNatClampNeg)))
    by_cases c1 : i = -1
    · rw [if_pos c1, if_pos c1]
    · rw [if_neg c1, if_neg c1]
      by_cases c2 : n ≤ i
      · rw [if_pos c2, if_pos c2]
      · rw [if_neg c2, if_neg c2, h3]
        have a1 : (-1 : Int) ≤ i.toInt := Int32.le_iff_toInt_le.mp hi
        have a2 : (1 : Int) ≤ n.toInt := Int32.le_iff_toInt_le.mp hn.1
        have a3 : ¬ n.toInt ≤ i.toInt := fun q => c2 (Int32.le_iff_toInt_le.mpr q)
        show i.toInt.toNat < n.toInt.toNat
        omega
theorem rPeas_o (s : Ab) (p n k : Int32) : rPeas s p n k = oPeas s p n k := by
  unfold rPeas oPeas
  split
  · next hc => rw [peaA_o (bestP_o _ _ _) hc.2.2 hc.2.1]
  · rfl
