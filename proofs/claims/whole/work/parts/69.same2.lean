/-! ===== class and reference do the same: nod, meet ===== -/
theorem ndF_o (y : Vy) (a j : Nat) : ndF y a j = nodF y a j := by
  unfold ndF nodF fsB fnB
  refine allB_c (fun q _ => ?_)
  unfold fsF fnF
  rw [ite_self, Int32.add_zero, hp_chN, ← iN_add, ← iN_mul, iN_nat]
theorem ndS_o (y : Vy) (a : Nat) : ndS y a = nodS y a := bitsN_c (fun j _ => ndF_o y a j)
theorem rNod_o (s : Ab) (k : Int32) : rNod s k = oNod s k := by
  unfold rNod oNod
  rw [ndS_o]
theorem fstW_c {f g : Nat → Bool} {n : Nat} (h : ∀ j, j < n → f j = g j) : fstW f n = fstW g n := by
  induction n with
  | zero => rfl
  | succ n ih =>
    unfold fstW
    rw [ih (fun j hj => h j (by omega)), h n (by omega)]
theorem fstW_0 {f : Nat → Bool} (h : f 0 = true) : ∀ n, fstW f (n + 1) = some 0
  | 0 => by show (if f 0 then some 0 else none) = some 0; rw [h]; rfl
  | n + 1 => by
    unfold fstW
    rw [fstW_0 h n]
def sml (x : Int) : Prop := -10000 ≤ x ∧ x ≤ 10000
theorem cmp3_lt {x y : Int} (hx : sml x) (hy : sml y) (h : x < y) : cmp3 (iN x) (iN y) = -1 := by
  unfold sml at hx hy
  unfold cmp3
  rw [if_pos ((iN_lt (by omega) (by omega) (by omega) (by omega)).mpr h)]
theorem cmp3_eq {x y : Int} (h : x = y) : cmp3 (iN x) (iN y) = 0 := by
  subst h
  unfold cmp3
  rw [if_neg (Int32.lt_irrefl), if_pos rfl]
theorem cmp3_gt {x y : Int} (hx : sml x) (hy : sml y) (h : y < x) : cmp3 (iN x) (iN y) = 1 := by
  unfold sml at hx hy
  unfold cmp3
  rw [if_neg (fun q => absurd ((iN_lt (by omega) (by omega) (by omega) (by omega)).mp q) (by omega)), if_neg (fun q => absurd ((iN_inj (by omega) (by omega) (by omega) (by omega)).mp q) (by omega))]
theorem sgn3_lt {x y : Int} (hx : sml x) (hy : sml y) (h : x < y) : sgn3 (iN x) (iN y) = -1 := by
  unfold sml at hx hy
  unfold sgn3
  rw [if_neg (fun q => absurd ((iN_lt (by omega) (by omega) (by omega) (by omega)).mp q) (by omega)), if_pos ((iN_lt (by omega) (by omega) (by omega) (by omega)).mpr h)]
theorem sgn3_gt {x y : Int} (hx : sml x) (hy : sml y) (h : y < x) : sgn3 (iN x) (iN y) = 1 := by
  unfold sml at hx hy
  unfold sgn3
  rw [if_pos ((iN_lt (by omega) (by omega) (by omega) (by omega)).mpr h)]
theorem iN_z0 {z : Int} (hz : sml z) : iN z = 0 ↔ z = 0 := by
  unfold sml at hz
  rw [show (0 : Int32) = iN 0 from rfl, iN_inj (by omega) (by omega) (by omega) (by omega)]
theorem iN_p {z : Int} (hz : sml z) : iN z * 1 < 0 ↔ z < 0 := by
  unfold sml at hz
  rw [show (0 : Int32) = iN 0 from rfl, show (1 : Int32) = iN 1 from rfl, iN_mul, Int.mul_one, iN_lt (by omega) (by omega) (by omega) (by omega)]
theorem iN_m {z : Int} (hz : sml z) : iN z * -1 < 0 ↔ 0 < z := by
  unfold sml at hz
  rw [show (0 : Int32) = iN 0 from rfl, show (-1 : Int32) = iN (-1) from rfl, iN_mul, iN_lt (by omega) (by omega) (by omega) (by omega)]
  omega
/-- at one watch, if she was not at p at first -/
theorem meet_pt {X X0 P t : Int} (w : Int32) (hX : sml X) (hX0 : sml X0) (hP : -60 ≤ P ∧ P ≤ 60) (ht : -200 ≤ t ∧ t ≤ 200) (hX' : -1000 ≤ X ∧ X ≤ 1000) (hne : X0 ≠ P) : (decide (iN (X - P - t) = 0) || (decide (w = 1) && decide (iN (X - P - t) * sgn3 (iN X0) (iN P) < 0))) = (decide (cmp3 (iN X) (iN (P + t)) = 0) || (decide (w = 1) && !decide (cmp3 (iN X) (iN (P + t)) = cmp3 (iN X0) (iN P)))) := by
  have sP : sml P := ⟨by omega, by omega⟩
  have sPt : sml (P + t) := ⟨by omega, by omega⟩
  have sz : sml (X - P - t) := ⟨by omega, by omega⟩
  by_cases c : X = P + t
  · rw [decide_eq_true ((iN_z0 sz).mpr (by omega)), decide_eq_true (cmp3_eq c), Bool.true_or, Bool.true_or]
  · rw [decide_eq_false (fun q => absurd ((iN_z0 sz).mp q) (by omega)), Bool.false_or]
    rcases (by omega : X < P + t ∨ P + t < X) with c1 | c1 <;> rcases (by omega : X0 < P ∨ P < X0) with c2 | c2
    · rw [cmp3_lt hX sPt c1, cmp3_lt hX0 sP c2, sgn3_lt hX0 sP c2, decide_eq_false (fun q => absurd ((iN_m sz).mp q) (by omega))]; rfl
    · rw [cmp3_lt hX sPt c1, cmp3_gt hX0 sP c2, sgn3_gt hX0 sP c2, decide_eq_true ((iN_p sz).mpr (by omega))]; rfl
    · rw [cmp3_gt hX sPt c1, cmp3_lt hX0 sP c2, sgn3_lt hX0 sP c2, decide_eq_true ((iN_m sz).mpr (by omega))]; rfl
    · rw [cmp3_gt hX sPt c1, cmp3_gt hX0 sP c2, sgn3_gt hX0 sP c2, decide_eq_false (fun q => absurd ((iN_p sz).mp q) (by omega))]; rfl
theorem i32_r {p lo hi : Int32} (h : lo ≤ p ∧ p ≤ hi) : lo.toInt ≤ p.toInt ∧ p.toInt ≤ hi.toInt := ⟨Int32.le_iff_toInt_le.mp h.1, Int32.le_iff_toInt_le.mp h.2⟩
theorem rMeet_o {b0 : Nat} {s : Ab} (hV : AV b0 s) (hb : b0 ≤ 100) (p b w : Int32) : rMeet s p b w = oMeet s p b w := by
  unfold rMeet oMeet
  split
  · next hc =>
    have hP : -60 ≤ p.toInt ∧ p.toInt ≤ 60 := i32_r hc.1
    have hB : -3 ≤ b.toInt ∧ b.toInt ≤ 3 := i32_r hc.2.1
    have hv := hV.1.1
    generalize hh : vh (aV s) = h at hv
    have e : fstW (mmF h p b w) 61 = fstW (mtF h p b w) 61 := by
      obtain ⟨v1, v2, v3, v4, v5, v6⟩ := hv
      by_cases c : hp h = p.toInt
      · have ep : p = iN (hp h) := by rw [c]; exact iN_of p
        have z1 : mmF h p b w 0 = true := by
          unfold mmF
          rw [decide_eq_true (show iN (hp (pasN h 0)) - p - nI 0 * b = 0 from ?_), Bool.true_or]
          rw [ep, show nI 0 = 0 from rfl, Int32.zero_mul, Int32.sub_zero]
          exact Int32.sub_self _
        have z2 : mtF h p b w 0 = true := by
          unfold mtF
          rw [decide_eq_true (show cmp3 (iN (hp (pasN h 0))) (p + b * nI 0) = 0 from ?_), Bool.true_or]
          rw [ep, show nI 0 = 0 from rfl, Int32.mul_zero, Int32.add_zero]
          exact cmp3_eq rfl
        rw [fstW_0 z1 60, fstW_0 z2 60]
      · refine fstW_c (fun m hm => ?_)
        have hm2 := pasN_V ⟨v1, v2, v3, v4, v5, v6⟩ m
        have ht : -183 ≤ (m : Int) * b.toInt ∧ (m : Int) * b.toInt ≤ 183 := by
          generalize b.toInt = B at hB
          rcases (by omega : B = -3 ∨ B = -2 ∨ B = -1 ∨ B = 0 ∨ B = 1 ∨ B = 2 ∨ B = 3) with rfl | rfl | rfl | rfl | rfl | rfl | rfl <;> omega
        have q := meet_pt (X := hp (pasN h m)) (X0 := hp h) (P := p.toInt) (t := (m : Int) * b.toInt) w ⟨by have := hm2.2.2.2.1; omega, by have := hm2.2.2.2.2.1; omega⟩ ⟨by omega, by omega⟩ hP ⟨by omega, by omega⟩ ⟨by have := hm2.2.2.2.1; omega, by have := hm2.2.2.2.2.1; omega⟩ c
        unfold mmF mtF
        rw [← iN_sub, ← iN_sub, ← iN_add, ← iN_mul, iN_nat, ← iN_of, ← iN_of] at q
        rw [Int32.mul_comm b]
        exact q
    rw [e]
  · rfl
