/-! ===== class and reference do the same: look ===== -/
def cntB (S : Nat) : Nat → Nat
  | 0 => 0
  | j + 1 => cntB S j + if S.testBit j then 1 else 0
theorem pop_cnt : ∀ S, S < 128 → pop S = cntB S 7 := by decide +kernel
theorem pop_0 : ∀ S, S < 128 → (pop S = 0 ↔ S = 0) := by decide +kernel
theorem any_0 : ∀ S, S < 128 → S ≠ 0 → anyB (fun j => S.testBit j) 7 = true := by decide +kernel
theorem akC_all {S0 : Nat} {wv : Nat → Nat → Int32} {m a : Nat} (h : ∀ j, j < 7 → wv a m = wv j m) : ∀ j, j ≤ 7 → akC S0 wv m a j = if S0.testBit a then cntB S0 j else 0
  | 0, _ => by rw [show akC S0 wv m a 0 = 0 from rfl, show cntB S0 0 = 0 from rfl, ite_self]
  | j + 1, hj => by
    rw [akC_s, akC_all h j (by omega)]
    unfold akF
    rw [decide_eq_true (h j (by omega))]
    show _ = if S0.testBit a then cntB S0 j + (if S0.testBit j then 1 else 0) else 0
    cases S0.testBit a <;> cases S0.testBit j <;> rfl
theorem akC_one {S0 : Nat} {wv : Nat → Nat → Int32} {m a : Nat} (h : ∀ j, j < 7 → (wv a m = wv j m ↔ a = j)) : ∀ j, j ≤ 7 → akC S0 wv m a j = if S0.testBit a then (if a < j then 1 else 0) else 0
  | 0, _ => by rw [show akC S0 wv m a 0 = 0 from rfl, if_neg (Nat.not_lt_zero a), ite_self]
  | j + 1, hj => by
    rw [akC_s, akC_one h j (by omega)]
    unfold akF
    by_cases e : a = j
    · subst e
      rw [decide_eq_true rfl, if_neg (Nat.lt_irrefl a), if_pos (Nat.lt_succ_self a)]
      cases S0.testBit a <;> rfl
    · rw [decide_eq_false (fun q => e ((h j (by omega)).mp q)), Bool.and_false, Bool.and_false]
      by_cases e2 : a < j
      · rw [if_pos e2, if_pos (show a < j + 1 by omega)]; rfl
      · rw [if_neg e2, if_neg (show ¬ a < j + 1 by omega)]; rfl
theorem akM_c {S0 : Nat} {wv : Nat → Nat → Int32} {m c : Nat} (hc : 0 < c) (h : ∀ a, a < 7 → akC S0 wv m a 7 = if S0.testBit a then c else 0) : ∀ a, a ≤ 7 → akM S0 wv m a = if anyB (fun j => S0.testBit j) a then c else 0
  | 0, _ => rfl
  | a + 1, ha => by
    have e : akM S0 wv m (a + 1) = if akM S0 wv m a < akC S0 wv m a 7 then akC S0 wv m a 7 else akM S0 wv m a := rfl
    rw [e, akM_c hc h a (by omega), h a (by omega), anyB_s]
    cases anyB (fun j => S0.testBit j) a <;> cases S0.testBit a
    · rfl
    · exact if_pos hc
    · exact if_neg (Nat.not_lt_zero c)
    · exact if_neg (Nat.lt_irrefl c)
theorem wv_eq {y : Vy} {k a m : Nat} : wvW y k a m = iN (hp (pasN (vh y) m) + ((a : Int) - 3 - hN (vh y) k) * (tst (vh y) k m : Int)) := by
  unfold wvW; rw [hp_chN]
theorem akM_alk {b : Nat} {y : Vy} {k S0 m : Nat} (hv : HV b (vh y)) (hb : b ≤ 100) (hk : k < hn (vh y)) (hS : S0 < 128) (h0 : S0 ≠ 0) (hm : m ≤ 20) : akM S0 (wvW y k) m 7 = alk (vh y) k (pop S0) m := by
  have ha := any_0 S0 hS h0
  have hv2 := pasN_V hv m
  have b1 := hv2.2.2.2.1
  have b2 := hv2.2.2.2.2.1
  have hNN := (hv.2.2.2.2.2 k hk).2.2
  have ht := tst_le (vh y) k m
  unfold alk
  by_cases c : 0 < tst (vh y) k m
  · rw [if_pos c, akM_c (c := 1) (by decide) (fun a ha7 => ?_) 7 (by omega), ha]; rfl
    rw [akC_one (fun j hj => ?_) 7 (by omega), if_pos ha7]
    rw [wv_eq, wv_eq]
    generalize hp (pasN (vh y) m) = P at b1 b2 ⊢
    generalize hN (vh y) k = N at hNN ⊢
    generalize tst (vh y) k m = t at ht c ⊢
    have q : ∀ x : Nat, x < 7 → -1000 ≤ ((x : Int) - 3 - N) * (t : Int) ∧ ((x : Int) - 3 - N) * (t : Int) ≤ 1000 := by
      intro x hx
      generalize hX : (x : Int) - 3 - N = X
      have x1 : -6 ≤ X ∧ X ≤ 6 := by omega
      rcases (by omega : X = -6 ∨ X = -5 ∨ X = -4 ∨ X = -3 ∨ X = -2 ∨ X = -1 ∨ X = 0 ∨ X = 1 ∨ X = 2 ∨ X = 3 ∨ X = 4 ∨ X = 5 ∨ X = 6) with rfl | rfl | rfl | rfl | rfl | rfl | rfl | rfl | rfl | rfl | rfl | rfl | rfl <;> omega
    have qa := q a ha7
    have qj := q j hj
    rw [iN_inj (by omega) (by omega) (by omega) (by omega)]
    constructor
    · intro e
      have e2 : ((a : Int) - 3 - N) * (t : Int) = ((j : Int) - 3 - N) * (t : Int) := by omega
      have e3 := Int.eq_of_mul_eq_mul_right (by omega) e2
      omega
    · intro e; rw [e]
  · rw [if_neg c]
    have hp0 : 0 < pop S0 := Nat.pos_of_ne_zero (fun q => h0 ((pop_0 S0 hS).mp q))
    rw [akM_c (c := pop S0) hp0 (fun a ha7 => ?_) 7 (by omega), ha]; rfl
    rw [akC_all (fun j hj => ?_) 7 (by omega), pop_cnt S0 hS]
    rw [wv_eq, wv_eq, show tst (vh y) k m = 0 by omega]
    rw [show ((0 : Nat) : Int) = 0 from rfl, Int.mul_zero, Int.mul_zero]
theorem lk_o {b : Nat} {y : Vy} {k S0 : Nat} (hv : HV b (vh y)) (hb : b ≤ 100) (hk : k < hn (vh y)) (hS : S0 < 128) (h0 : S0 ≠ 0) : ∀ m, m ≤ 20 → lkN (vh y) k (pop S0) m = (lkR S0 (wvW y k) m, alk (vh y) k (pop S0) (lkR S0 (wvW y k) m))
  | 0, _ => rfl
  | m + 1, hm => by
    have h1 := lkR_le S0 (wvW y k) m
    show (if alk (vh y) k (pop S0) (m + 1) < (lkN (vh y) k (pop S0) m).2 then (m + 1, alk (vh y) k (pop S0) (m + 1)) else lkN (vh y) k (pop S0) m) = _
    have e : lkR S0 (wvW y k) (m + 1) = if akM S0 (wvW y k) (m + 1) 7 < akM S0 (wvW y k) (lkR S0 (wvW y k) m) 7 then m + 1 else lkR S0 (wvW y k) m := rfl
    rw [lk_o hv hb hk hS h0 m (by omega), e, akM_alk hv hb hk hS h0 hm, akM_alk hv hb hk hS h0 (by omega)]
    split <;> rfl
theorem rLook_o {b : Nat} {s : Ab} (hV : AV b s) (hb : b ≤ 100) (k : Int32) : rLook s k = oLook s k := by
  unfold rLook oLook
  split
  · next hk =>
    have hl := isH_lt hV hk
    rw [ndS_o]
    have hS : nodS (aV s) k.toNatClampNeg < 128 := bitsN_lt _ 7
    generalize nodS (aV s) k.toNatClampNeg = S0 at hS
    by_cases c : S0 = 0
    · rw [if_pos c, if_pos ((pop_0 S0 hS).mpr c)]
    · rw [if_neg c, if_neg (fun q => c ((pop_0 S0 hS).mp q)), lk_o hV.1.1 hb hl hS c 20 (by omega)]
  · rfl
