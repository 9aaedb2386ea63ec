/-! ===== class and reference do the same: is, pulled ===== -/
theorem bitsN_c {f g : Nat → Bool} {n : Nat} (h : ∀ j, j < n → f j = g j) : bitsN f n = bitsN g n := by
  induction n with
  | zero => rfl
  | succ n ih =>
    show bitsN f n + (if f n then 2 ^ n else 0) = bitsN g n + (if g n then 2 ^ n else 0)
    rw [ih (fun j hj => h j (by omega)), h n (by omega)]
theorem allB_c {f g : Nat → Bool} {n : Nat} (h : ∀ j, j < n → f j = g j) : allB f n = allB g n := by
  induction n with
  | zero => rfl
  | succ n ih =>
    show (allB f n && f n) = (allB g n && g n)
    rw [ih (fun j hj => h j (by omega)), h n (by omega)]
theorem rIs_o (s : Ab) (k : Int32) : rIs s k = oIs s k := by
  unfold rIs oIs
  rw [bitsN_c (f := rsF (aV s) k.toNatClampNeg) (g := isF (aV s) k.toNatClampNeg) (fun c _ => ?_)]
  unfold rsF isF fsB fpB
  exact allB_c (fun j _ => by unfold fsF fpF; rw [ite_self, ite_self])
theorem rPulled_o (s : Ab) (b : Int32) : rPulled s b = oPulled s b := by
  unfold rPulled oPulled
  rw [bitsN_c (f := fun k => fsB (aV s) (vh (aV s)) b (k + 1)) (g := fun k => fpB (aV s) (vh (aV s)) k b) (fun c _ => ?_)]
  exact allB_c (fun j _ => rfl)
/-- a nods by z, and she is e further -/
def shf (h : Hm) (a : Nat) (z e : Int) : Hm := (hn h, hK h, hT h, (fun j => if j = a then z else hN h j), hp h + e, hw h, hf h)
theorem chN_shf (h : Hm) (a : Nat) (z : Int) : chN h a z = shf h a z 0 := by unfold chN shf; rw [Int.add_zero]
theorem stw_shf (h : Hm) (a : Nat) (z e : Int) : stw (shf h a z e) (hf (shf h a z e)) = stw h (hf h) := rfl
theorem pas_shf (h : Hm) (a : Nat) (z e : Int) : pas (shf h a z e) = shf (pas h) a z (e + if stw h (hf h) = a + 1 then z - hN h a else 0) := by
  unfold pas
  rw [stw_shf]
  generalize stw h (hf h) = w
  have e1 : hp (goH (shf h a z e) w) = hp (goH h w) + (e + if w = a + 1 then z - hN h a else 0) := by
    show (if w = 0 then hp h + e else hp h + e + (if w - 1 = a then z else hN h (w - 1))) = (if w = 0 then hp h else hp h + hN h (w - 1)) + (e + if w = a + 1 then z - hN h a else 0)
    by_cases c : w = 0
    · rw [if_pos c, if_pos c, if_neg (by omega)]; omega
    · rw [if_neg c, if_neg c]
      by_cases c2 : w = a + 1
      · rw [if_pos (by omega), if_pos c2, show w - 1 = a by omega]; omega
      · rw [if_neg (by omega), if_neg c2]; omega
  show (hn h, hK h, _, _, hp (goH (shf h a z e) w), hw h + 1, 0) = _
  rw [e1]
  rfl
theorem hN_pasN (h : Hm) : ∀ m, hN (pasN h m) = hN h
  | 0 => rfl
  | m + 1 => hN_pasN h m
theorem pasN_shf (h : Hm) (a : Nat) (z : Int) : ∀ m, pasN (shf h a z 0) m = shf (pasN h m) a z ((z - hN h a) * (tst h a m : Int))
  | 0 => by show shf h a z 0 = shf h a z ((z - hN h a) * ((0 : Nat) : Int)); rw [show ((0 : Nat) : Int) = 0 from rfl, Int.mul_zero]
  | m + 1 => by
    show pas (pasN (shf h a z 0) m) = shf (pas (pasN h m)) a z ((z - hN h a) * ((tst h a m + if stN h m = a + 1 then 1 else 0 : Nat) : Int))
    rw [pasN_shf h a z m, pas_shf, hN_pasN]
    show shf (pas (pasN h m)) a z ((z - hN h a) * (tst h a m : Int) + if stN h m = a + 1 then z - hN h a else 0) = _
    by_cases c : stN h m = a + 1
    · rw [if_pos c, if_pos c, Int.natCast_add, Int.mul_add]; congr 2; show z - hN h a = (z - hN h a) * 1; rw [Int.mul_one]
    · rw [if_neg c, if_neg c, Nat.add_zero, Int.add_zero]
theorem hp_chN (h : Hm) (a : Nat) (z : Int) (m : Nat) : hp (pasN (chN h a z) m) = hp (pasN h m) + (z - hN h a) * (tst h a m : Int) := by
  rw [chN_shf, pasN_shf]; rfl
