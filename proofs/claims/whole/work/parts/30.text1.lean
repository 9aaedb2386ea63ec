/-! ===== Text: the reading, pure ===== -/
/-! ===== the text is read: as the class does it ===== -/
/-- the value of a number of one or two figures -/
def tV (L : Nat) (B : Nat → Nat) (s : Nat) : Nat := if rn pF L B s - s = 1 then B s - 48 else 10 * (B s - 48) + (B (s + 1) - 48)
theorem fig {c : Nat} (h : pF c = true) : 48 ≤ c ∧ c ≤ 57 := by
  unfold pF at h
  rw [Bool.and_eq_true] at h
  exact ⟨of_decide_eq_true h.1, of_decide_eq_true h.2⟩
theorem let' {c : Nat} (h : pL c = true) : 97 ≤ c ∧ c ≤ 122 := by
  unfold pL at h
  rw [Bool.and_eq_true] at h
  exact ⟨of_decide_eq_true h.1, of_decide_eq_true h.2⟩
theorem rn_pos {p : Nat → Bool} {L : Nat} {B : Nat → Nat} {s : Nat} (hs : s < L) (h : p (B s) = true) : s + 1 ≤ rn p L B s := by
  rw [rn_y hs h]
  exact rn_ge _ _ _ _
theorem tT2 {L : Nat} {B : Nat → Nat} {s : Nat} (h : tT L B s = 2) : s < L ∧ ¬ pL (B s) = true ∧ pF (B s) = true ∧ rn pF L B s - s ≤ 2 := by
  unfold tT at h
  by_cases h1 : L ≤ s
  · rw [if_pos h1] at h; cases h
  · rw [if_neg h1] at h
    by_cases h2 : pL (B s) = true
    · rw [if_pos h2] at h; cases h
    · rw [if_neg h2] at h
      by_cases h3 : pF (B s) = true
      · rw [if_pos h3] at h
        by_cases h4 : rn pF L B s - s ≤ 2
        · exact ⟨by omega, h2, h3, h4⟩
        · rw [if_neg h4] at h; cases h
      · rw [if_neg h3] at h
        split at h <;> cases h
theorem tN2 {L : Nat} {B : Nat → Nat} {s : Nat} (h : tT L B s = 2) : tN L B s = nI (tV L B s) ∧ tV L B s < 100 := by
  obtain ⟨h1, h2, h3, h4⟩ := tT2 h
  have h5 := rn_pos h1 h3
  have f1 := fig h3
  unfold tN tV
  rw [if_neg (by omega), if_neg h2, if_pos h3]
  rcases (by omega : rn pF L B s - s = 1 ∨ rn pF L B s - s = 2) with e | e
  · rw [e, if_pos rfl]
    refine ⟨?_, by omega⟩
    show (0 : Int32) * 10 + (nI (B (s + 0)) - 48) = _
    rw [Nat.add_zero, show (48 : Int32) = nI 48 from rfl, pk_sub f1.1]
    rw [show (0 : Int32) * 10 = nI 0 from rfl, nI_add, Nat.zero_add]
  · have f2 := fig (rn_all (p := pF) (L := L) (B := B) (k := s) (j := s + 1) (by omega) (by omega))
    rw [e, if_neg (by decide)]
    refine ⟨?_, by omega⟩
    show ((0 : Int32) * 10 + (nI (B (s + 0)) - 48)) * 10 + (nI (B (s + 1)) - 48) = _
    rw [Nat.add_zero, show (48 : Int32) = nI 48 from rfl, pk_sub f1.1, pk_sub f2.1, show (0 : Int32) * 10 = nI 0 from rfl, nI_add, Nat.zero_add, show (10 : Int32) = nI 10 from rfl, pk_mul, nI_add]
    congr 1
    omega
def isN (L : Nat) (B : Nat → Nat) (s m : Nat) : Bool := decide (tT L B s = 2) && decide (tV L B s ≤ m)
def wdF (B : Nat → Nat) (s w k : Nat) : Bool := decide (nI (B (s + k)) = chr w k)
def isW (L : Nat) (B : Nat → Nat) (s w : Nat) : Bool := decide (tT L B s = 1) && (decide (tE L B s - s = 4) && allB (wdF B s w) 4)
theorem tT_le (L : Nat) (B : Nat → Nat) (s : Nat) : tT L B s ≤ 4 := by
  unfold tT
  repeat' split
  all_goals omega
theorem tT1 {L : Nat} {B : Nat → Nat} {s : Nat} (h : tT L B s = 1) : s < L ∧ pL (B s) = true := by
  unfold tT at h
  by_cases h1 : L ≤ s
  · rw [if_pos h1] at h; cases h
  · rw [if_neg h1] at h
    by_cases h2 : pL (B s) = true
    · exact ⟨by omega, h2⟩
    · rw [if_neg h2] at h
      repeat' split at h
      all_goals cases h
abbrev PT : Type := Nat × Option Nat × Vy
def pStop (L : Nat) (B : Nat → Nat) (z : PT) : PT := if tT L B z.1 = 3 then (nx L B z.1, z.2.1, z.2.2) else (z.1, fl z.2.1 z.1, z.2.2)
def pNum (L : Nat) (B : Nat → Nat) (m s : Nat) (f : Option Nat) : Nat × Option Nat := if isN L B s m then (nx L B s, f) else (s, fl f s)
def pRock (L : Nat) (B : Nat → Nat) (sg : Int) (z : PT) : PT := if 6 ≤ vr z.2.2 then (z.1, fl z.2.1 z.1, z.2.2) else if isN L B (nx L B z.1) 60 && !rkB z.2.2 (iN (sg * (tV L B (nx L B z.1) : Int))) then (nx L B (nx L B z.1), z.2.1, adR z.2.2 (iN (sg * (tV L B (nx L B z.1) : Int)))) else (nx L B z.1, fl z.2.1 (nx L B z.1), z.2.2)
def pH1 (L : Nat) (B : Nat → Nat) (s : Nat) (f : Option Nat) : Nat × Option Nat := pNum L B 5 s f
def pH2 (L : Nat) (B : Nat → Nat) (s : Nat) (f : Option Nat) : Nat × Option Nat := pNum L B 40 (pH1 L B s f).1 (pH1 L B s f).2
def pH3 (L : Nat) (B : Nat → Nat) (s : Nat) (f : Option Nat) : Nat × Option Nat := pNum L B 3 (pH2 L B s f).1 (pH2 L B s f).2
def pHand (L : Nat) (B : Nat → Nat) (sg : Int) (z : PT) : PT := if 6 ≤ hn (vh z.2.2) then (z.1, fl z.2.1 z.1, z.2.2) else ((pH3 L B (nx L B z.1) z.2.1).1, (pH3 L B (nx L B z.1) z.2.1).2, if (pH3 L B (nx L B z.1) z.2.1).2 = none then adV z.2.2 (tV L B (nx L B z.1)) (tV L B (pH1 L B (nx L B z.1) z.2.1).1) (sg * (tV L B (pH2 L B (nx L B z.1) z.2.1).1 : Int)) else z.2.2)
def pItem (L : Nat) (B : Nat → Nat) (z : PT) : PT := if isW L B z.1 1 then pRock L B 1 z else if isW L B z.1 2 then pRock L B (-1) z else if isW L B z.1 3 then pHand L B 1 z else if isW L B z.1 4 then pHand L B (-1) z else (z.1, fl z.2.1 z.1, z.2.2)
def pLoop (L : Nat) (B : Nat → Nat) : Nat → Nat → PT → Nat × PT
  | 0, n, z => (n, z)
  | k + 1, n, z => if z.2.1 = none ∧ ¬ tT L B z.1 = 0 then pLoop L B k (n + 1) (pStop L B (pItem L B z)) else (n, z)
def pBeg (L : Nat) (B : Nat → Nat) : PT := if isW L B (rn pS L B 0) 0 then pStop L B (nx L B (rn pS L B 0), none, vy0) else (rn pS L B 0, some (rn pS L B 0), vy0)
def pAll (L : Nat) (B : Nat → Nat) : Nat × PT := pLoop L B 149 1 (pBeg L B)
/-- the state of a reading -/
def ZOk (b L : Nat) (z : PT) : Prop := z.1 ≤ L ∧ (∀ p, z.2.1 = some p → p ≤ L) ∧ VV b z.2.2
theorem fl_ok {L s : Nat} {f : Option Nat} (hs : s ≤ L) (hf : ∀ p, f = some p → p ≤ L) : ∀ p, fl f s = some p → p ≤ L := by
  intro p hp
  match f, hf with
  | none, _ => cases hp; exact hs
  | some q, hf => exact (Option.some.inj hp : q = p) ▸ hf q rfl
theorem fl_some (f : Option Nat) (s : Nat) : ¬ fl f s = none := by
  match f with
  | none => exact fun h => by cases h
  | some p => exact fun h => by cases h
theorem fl_id {f : Option Nat} {s : Nat} (h : ¬ f = none) : fl f s = f := by
  match f, h with
  | none, h => exact absurd rfl h
  | some p, _ => rfl
theorem VV_adR {b : Nat} {y : Vy} {p : Int32} (h : VV b y) (h6 : vr y < 6) : VV b (adR y p) := by
  obtain ⟨h1, h2, h3, h4, h5, h7⟩ := h
  exact ⟨h1, by show vr y + 1 ≤ 6; omega, h3, h4, h5, h7⟩
theorem VV_adV {b : Nat} {y : Vy} {k t : Nat} {n : Int} (h : VV b y) (h6 : hn (vh y) < 6) (hk : k ≤ 5) (ht : t ≤ 40) (hn1 : -3 ≤ n) (hn2 : n ≤ 3) : VV b (adV y k t n) := by
  obtain ⟨⟨a1, a2, a3, a4, a5, a6⟩, h2, h3, h4, h5, h7⟩ := h
  refine ⟨⟨by show hn (vh y) + 1 ≤ 6; omega, ?_, a3, a4, a5, fun j hj => ?_⟩, h2, h3, Nat.zero_le _, h5, fun u hu => absurd hu (Nat.not_lt_zero u)⟩
  · show hf (vh y) < 2 ^ (hn (vh y) + 1)
    rw [Nat.pow_succ]; omega
  · show (if j = hn (vh y) then k else hK (vh y) j) < 6 ∧ (if j = hn (vh y) then t else hT (vh y) j) ≤ 99 ∧ -3 ≤ (if j = hn (vh y) then n else hN (vh y) j) ∧ (if j = hn (vh y) then n else hN (vh y) j) ≤ 3
    have hj' : j < hn (vh y) + 1 := hj
    by_cases e : j = hn (vh y)
    · rw [if_pos e, if_pos e, if_pos e]; omega
    · rw [if_neg e, if_neg e, if_neg e]; exact a6 j (by omega)
theorem isN_t {L : Nat} {B : Nat → Nat} {s m : Nat} (h : isN L B s m = true) : tT L B s = 2 ∧ tV L B s ≤ m := by
  unfold isN at h
  rw [Bool.and_eq_true] at h
  exact ⟨of_decide_eq_true h.1, of_decide_eq_true h.2⟩
theorem pStop_ok {b L : Nat} {B : Nat → Nat} {z : PT} (h : ZOk b L z) : ZOk b L (pStop L B z) := by
  unfold pStop
  split
  · exact ⟨(nx_le h.1).1, h.2.1, h.2.2⟩
  · exact ⟨h.1, fl_ok h.1 h.2.1, h.2.2⟩
theorem pNum_ok {L : Nat} {B : Nat → Nat} {m s : Nat} {f : Option Nat} (hs : s ≤ L) (hf : ∀ p, f = some p → p ≤ L) : (pNum L B m s f).1 ≤ L ∧ ∀ p, (pNum L B m s f).2 = some p → p ≤ L := by
  unfold pNum
  split
  · exact ⟨(nx_le hs).1, hf⟩
  · exact ⟨hs, fl_ok hs hf⟩
theorem pNum_none {L : Nat} {B : Nat → Nat} {m s : Nat} {f : Option Nat} (h : (pNum L B m s f).2 = none) : f = none ∧ isN L B s m = true := by
  unfold pNum at h
  by_cases e : isN L B s m = true
  · rw [if_pos e] at h; exact ⟨h, e⟩
  · rw [if_neg e] at h; exact absurd h (fl_some _ _)
theorem pRock_ok {b L : Nat} {B : Nat → Nat} {sg : Int} {z : PT} (h : ZOk b L z) : ZOk b L (pRock L B sg z) := by
  unfold pRock
  split
  · exact ⟨h.1, fl_ok h.1 h.2.1, h.2.2⟩
  · split
    · exact ⟨(nx_le (nx_le h.1).1).1, h.2.1, VV_adR h.2.2 (by omega)⟩
    · exact ⟨(nx_le h.1).1, fl_ok (nx_le h.1).1 h.2.1, h.2.2⟩
theorem sg3 {sg : Int} {v : Nat} (h : sg = 1 ∨ sg = -1) (hv : v ≤ 3) : -3 ≤ sg * (v : Int) ∧ sg * (v : Int) ≤ 3 := by
  rcases h with rfl | rfl <;> omega
theorem pHand_ok {b L : Nat} {B : Nat → Nat} {sg : Int} {z : PT} (h : ZOk b L z) (hsg : sg = 1 ∨ sg = -1) : ZOk b L (pHand L B sg z) := by
  unfold pHand
  split
  · exact ⟨h.1, fl_ok h.1 h.2.1, h.2.2⟩
  · have q1 := pNum_ok (B := B) (m := 5) (nx_le (B := B) h.1).1 h.2.1
    have q2 := pNum_ok (B := B) (m := 40) q1.1 q1.2
    have q3 := pNum_ok (B := B) (m := 3) q2.1 q2.2
    refine ⟨q3.1, q3.2, ?_⟩
    show VV b (if (pH3 L B (nx L B z.1) z.2.1).2 = none then _ else _)
    split
    · rename_i h6 e
      have e3 := pNum_none e
      have e2 := pNum_none e3.1
      have e1 := pNum_none e2.1
      have s3 := sg3 hsg (isN_t e3.2).2
      exact VV_adV h.2.2 (by omega) (isN_t e1.2).2 (isN_t e2.2).2 s3.1 s3.2
    · exact h.2.2
theorem pItem_ok {b L : Nat} {B : Nat → Nat} {z : PT} (h : ZOk b L z) : ZOk b L (pItem L B z) := by
  unfold pItem
  split
  · exact pRock_ok h
  · split
    · exact pRock_ok h
    · split
      · exact pHand_ok h (Or.inl rfl)
      · split
        · exact pHand_ok h (Or.inr rfl)
        · exact ⟨h.1, fl_ok h.1 h.2.1, h.2.2⟩
theorem TKs.fr {i i' : MI0} {t L : Nat} {B : Nat → Nat} {s : Nat} (h : TKs i t L B s) (e : ∀ a, a ≠ 2 → i' t a = i t a) (e1 : i' (t + 1) = i (t + 1)) : TKs i' t L B s := by
  obtain ⟨⟨h1, h2⟩, h3, h4, h5, h6⟩ := h
  exact ⟨⟨(e 1 (by decide)).trans h1, fun j hj => by rw [e1]; exact h2 j hj⟩, (e 3 (by decide)).trans h3, (e 4 (by decide)).trans h4, (e 5 (by decide)).trans h5, (e 6 (by decide)).trans h6⟩
