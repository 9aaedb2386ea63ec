/-! ===== class and reference do the same: odds ===== -/
theorem sumN_c {f g : Nat → Nat} : ∀ {n : Nat}, (∀ j, j < n → f j = g j) → sumN f n = sumN g n
  | 0, _ => rfl
  | n + 1, h => by rw [sumN_s, sumN_s, sumN_c (fun j hj => h j (by omega)), h n (by omega)]
theorem prodN_c {f g : Nat → Nat} : ∀ {n : Nat}, (∀ j, j < n → f j = g j) → prodN f n = prodN g n
  | 0, _ => rfl
  | n + 1, h => by rw [prodN_s, prodN_s, prodN_c (fun j hj => h j (by omega)), h n (by omega)]
theorem sumN_a (f g : Nat → Nat) : ∀ n, sumN (fun j => f j + g j) n = sumN f n + sumN g n
  | 0 => rfl
  | n + 1 => by rw [sumN_s, sumN_s, sumN_s, sumN_a f g n]; omega
theorem sumN_m (f : Nat → Nat) (c : Nat) : ∀ n, sumN (fun j => f j * c) n = sumN f n * c
  | 0 => (Nat.zero_mul c).symm
  | n + 1 => by rw [sumN_s, sumN_s, sumN_m f c n, Nat.add_mul]
theorem sumN_z : ∀ n, sumN (fun _ => 0) n = 0
  | 0 => rfl
  | n + 1 => by rw [sumN_s, sumN_z n]
theorem sumN_sp (f : Nat → Nat) (a : Nat) : ∀ b, sumN f (a + b) = sumN f a + sumN (fun i => f (a + i)) b
  | 0 => rfl
  | b + 1 => by rw [← Nat.add_assoc, sumN_s, sumN_s, sumN_sp f a b]; omega
theorem prodN_z {f : Nat → Nat} {j : Nat} (hf : f j = 0) : ∀ {n : Nat}, j < n → prodN f n = 0
  | 0, h => absurd h (Nat.not_lt_zero j)
  | n + 1, h => by
    rw [prodN_s]
    by_cases e : j = n
    · rw [← e, hf, Nat.mul_zero]
    · rw [prodN_z hf (by omega), Nat.zero_mul]
theorem prodN_1 {f : Nat → Nat} {a w : Nat} : ∀ {n : Nat}, a < n → prodN (fun j => if j = a then w else f j) n = w * prodN (fun j => if j = a then 1 else f j) n
  | 0, h => absurd h (Nat.not_lt_zero a)
  | n + 1, h => by
    rw [prodN_s, prodN_s]
    by_cases e : a = n
    · subst e
      rw [if_pos rfl, if_pos rfl, Nat.mul_one, Nat.mul_comm, prodN_c (f := fun j => if j = a then w else f j) (g := fun j => if j = a then 1 else f j) (fun j hj => by rw [if_neg (by omega), if_neg (by omega)])]
    · rw [prodN_1 (by omega), if_neg (Ne.symm e), if_neg (Ne.symm e), Nat.mul_assoc]
theorem sum_prod (φ : Nat → Bool → Nat) : ∀ n, sumN (fun g => prodN (fun j => φ j (g.testBit j)) n) (2 ^ n) = prodN (fun j => φ j true + φ j false) n
  | 0 => rfl
  | n + 1 => by
    rw [Nat.pow_succ, Nat.mul_two, sumN_sp, prodN_s]
    have e1 : sumN (fun g => prodN (fun j => φ j (g.testBit j)) (n + 1)) (2 ^ n) = sumN (fun g => prodN (fun j => φ j (g.testBit j)) n * φ n false) (2 ^ n) := sumN_c (fun g hg => by rw [prodN_s, Nat.testBit_lt_two_pow hg])
    have e2 : sumN (fun i => prodN (fun j => φ j ((2 ^ n + i).testBit j)) (n + 1)) (2 ^ n) = sumN (fun g => prodN (fun j => φ j (g.testBit j)) n * φ n true) (2 ^ n) := sumN_c (fun g hg => by
      rw [prodN_s, Nat.testBit_two_pow_add_eq, Nat.testBit_lt_two_pow hg, prodN_c (f := fun j => φ j ((2 ^ n + g).testBit j)) (g := fun j => φ j (g.testBit j)) (fun j hj => by rw [Nat.testBit_two_pow_add_gt hj])]
      rfl)
    rw [e1, e2, sumN_m, sumN_m, sum_prod φ n, Nat.mul_add, Nat.add_comm]
def wt (c : Nat) (x : Bool) : Nat := if x then c else 10 - c
def phO (h : Hm) (a c : Nat) (v : Bool) (j : Nat) (x : Bool) : Nat := if j = a then (if x = v then wt c v else 0) else (if stbB j (slf h j x) a (slf h a v) then wt c x else 0)
def tO (h : Hm) (a c : Nat) (v : Bool) (g : Nat) : Nat := if slf h a v = 0 then 0 else prodN (fun j => phO h a c v j (g.testBit j)) (hn h)
theorem tO_ne {h : Hm} {a c g : Nat} {v : Bool} (ha : a < hn h) (hv : ¬ g.testBit a = v) : tO h a c v g = 0 := by
  unfold tO
  split
  · rfl
  · exact prodN_z (j := a) (by unfold phO; rw [if_pos rfl, if_neg hv]) ha
theorem tO_eq {h : Hm} {a c g : Nat} (ha : a < hn h) : tO h a c (g.testBit a) g = odF h a c g := by
  unfold tO odF
  by_cases w : stw h g = a + 1
  · rw [if_pos w]
    obtain ⟨-, c2, c3, c4⟩ := (stw_iff h g a).mp w
    rw [sly_slf] at c2
    rw [if_neg (by omega)]
    refine prodN_c (fun j hj => ?_)
    unfold phO
    by_cases e : j = a
    · subst e
      rw [if_pos rfl, if_pos rfl]; rfl
    · rw [if_neg e, if_pos]
      · rfl
      · unfold stbB
        by_cases e2 : j < a
        · rw [if_pos e2]; exact decide_eq_true (c3 j e2)
        · rw [if_neg e2]; exact decide_eq_true (c4 j hj)
  · rw [if_neg w]
    split
    · rfl
    · next h0 =>
      apply Decidable.byContradiction
      intro hp
      apply w
      have hall : ∀ j, j < hn h → j ≠ a → stbB j (slf h j (g.testBit j)) a (slf h a (g.testBit a)) = true := by
        intro j hj hne
        apply Decidable.byContradiction
        intro hb
        exact hp (prodN_z (j := j) (by unfold phO; rw [if_neg hne, if_neg hb]) hj)
      refine (stw_iff h g a).mpr ⟨ha, by rw [sly_slf]; omega, fun j hj => ?_, fun j hj => ?_⟩
      · have := hall j (by omega) (by omega)
        unfold stbB at this
        rw [if_pos hj] at this
        exact of_decide_eq_true this
      · by_cases e : j = a
        · rw [e]; exact Nat.le_refl _
        · have := hall j hj e
          unfold stbB at this
          by_cases e2 : j < a
          · rw [if_pos e2] at this
            exact Nat.le_of_lt (of_decide_eq_true this)
          · rw [if_neg e2] at this
            exact of_decide_eq_true this
theorem odF_2 {h : Hm} {a c g : Nat} (ha : a < hn h) : odF h a c g = tO h a c true g + tO h a c false g := by
  have q := tO_eq (c := c) (g := g) ha
  by_cases e : g.testBit a = true
  · rw [e] at q
    rw [q, tO_ne (v := false) ha (by rw [e]; decide), Nat.add_zero]
  · have e' : g.testBit a = false := by cases x : g.testBit a with | false => rfl | true => exact absurd x e
    rw [e'] at q
    rw [q, tO_ne (v := true) ha (by rw [e']; decide), Nat.zero_add]
theorem tO_sum {h : Hm} {a c : Nat} (v : Bool) (ha : a < hn h) : sumN (tO h a c v) (2 ^ hn h) = wt c v * coo h a (slf h a v) c := by
  unfold tO coo
  by_cases e : slf h a v = 0
  · rw [if_pos e, Nat.mul_zero]
    rw [sumN_c (g := fun _ => 0) (fun j _ => if_pos e)]
    exact sumN_z _
  · rw [if_neg e, sumN_c (g := fun g => prodN (fun j => phO h a c v j (g.testBit j)) (hn h)) (fun j _ => if_neg e), sum_prod (fun j x => phO h a c v j x)]
    rw [prodN_c (g := fun j => if j = a then wt c v else cooF h a (slf h a v) c j) (fun j hj => ?_), prodN_1 ha, prodN_c (f := fun j => if j = a then 1 else cooF h a (slf h a v) c j) (g := cooF h a (slf h a v) c) (fun j hj => ?_)]
    rotate_left
    · show phO h a c v j true + phO h a c v j false = if j = a then wt c v else cooF h a (slf h a v) c j
      unfold phO cooF
      by_cases e2 : j = a
      · rw [if_pos e2, if_pos e2, if_pos e2]; cases v
        · rw [if_neg (by decide), if_pos rfl, Nat.zero_add]
        · rw [if_pos rfl, if_neg (by decide), Nat.add_zero]
      · rw [if_neg e2, if_neg e2, if_neg e2, if_neg e2]; rfl
    · show (if j = a then 1 else cooF h a (slf h a v) c j) = cooF h a (slf h a v) c j
      by_cases e2 : j = a
      · rw [if_pos e2]; unfold cooF; rw [if_pos e2]
      · rw [if_neg e2]
theorem odS_o {h : Hm} {a c : Nat} (ha : a < hn h) : odS h a c = chn h a c := by
  unfold odS chn
  rw [sumN_c (fun g _ => odF_2 ha), sumN_a, tO_sum true ha, tO_sum false ha]
  rfl
theorem rOdds_o {b : Nat} {s : Ab} (hV : AV b s) (k c : Int32) : rOdds s k c = oOdds s k c := by
  unfold rOdds oOdds
  split
  · next hk => rw [odS_o (isH_lt hV hk.1)]
  · rfl
