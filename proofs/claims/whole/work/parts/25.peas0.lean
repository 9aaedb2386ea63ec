/-! ===== peas: the pure search ===== -/
/-! ===== peas: the search, unpruned ===== -/
abbrev PSt : Type := Option (Nat × (Nat → Nat))
def lsO (c : Nat) : PSt → Bool
  | none => true
  | some q => decide (c < q.1)
theorem lsO_mono {x c : Nat} {s : PSt} (h : x ≤ c) (hc : lsO c s = true) : lsO x s = true := by
  match s, hc with
  | none, _ => rfl
  | some q, hc => exact decide_eq_true (Nat.lt_of_le_of_lt h (of_decide_eq_true hc))
theorem lsO_anti {x c : Nat} {s : PSt} (h : x ≤ c) (hx : lsO x s = false) : lsO c s = false := by
  cases hc : lsO c s with
  | false => rfl
  | true => rw [lsO_mono h hc] at hx; cases hx
def fO (n : Nat) : PSt → Nat
  | none => n + 1
  | some q => q.1
def pk1 (k : Nat) : Nat := if k = 0 then 0 else 1
def stp (h : Hm) (k : Nat) : Hm := goH h (stw h (if k = 0 then hf h else hf h ||| 2 ^ (k - 1)))
def updW (w : Nat → Nat) (e k : Nat) : Nat → Nat := fun j => if j = e then k else w j
def srvL (f : Nat → PSt → PSt) : Nat → PSt → PSt
  | 0, s => s
  | m + 1, s => f m (srvL f m s)
def srv (p : Int) : Nat → Nat → Hm → Nat → (Nat → Nat) → PSt → PSt
  | 0, _, h, c, w, st => if decide (hp h = p) && lsO c st then some (c, w) else st
  | r + 1, e, h, c, w, st => srvL (fun k s => srv p r (e + 1) (stp h k) (c + pk1 k) (updW w e k) s) (hn h + 1) st
/-- by m peas she is at p behind r watches -/
def Rch (p : Int) : Nat → Hm → Nat → Prop
  | 0, h, m => hp h = p ∧ m = 0
  | r + 1, h, m => ∃ k m' : Nat, k ≤ hn h ∧ Rch p r (stp h k) m' ∧ m = m' + pk1 k
theorem srvL_id {f : Nat → PSt → PSt} {s : PSt} : ∀ {m : Nat}, (∀ k, k < m → f k s = s) → srvL f m s = s
  | 0, _ => rfl
  | m + 1, h => by
    unfold srvL
    rw [srvL_id (fun k hk => h k (by omega))]
    exact h m (by omega)
theorem srv_skip {p : Int} : ∀ (r e : Nat) (h : Hm) (c : Nat) (w : Nat → Nat) (st : PSt), (∀ m, Rch p r h m → lsO (c + m) st = false) → srv p r e h c w st = st
  | 0, e, h, c, w, st, hs => by
    unfold srv
    by_cases hp' : hp h = p
    · have := hs 0 ⟨hp', rfl⟩
      rw [Nat.add_zero] at this
      rw [this, Bool.and_false]
      rfl
    · rw [decide_eq_false hp', Bool.false_and]
      rfl
  | r + 1, e, h, c, w, st, hs => by
    unfold srv
    refine srvL_id (fun k hk => srv_skip r (e + 1) (stp h k) (c + pk1 k) (updW w e k) st (fun m' hm => ?_))
    have := hs (m' + pk1 k) ⟨k, m', by omega, hm, rfl⟩
    rw [show c + pk1 k + m' = c + (m' + pk1 k) by omega]
    exact this
theorem srvL_le {f : Nat → PSt → PSt} {Q : Nat → Nat → Prop} (hf : ∀ k s, (∀ x, lsO x (f k s) = true → lsO x s = true) ∧ ∀ x, Q k x → lsO x (f k s) = false) (s : PSt) : ∀ m, (∀ x, lsO x (srvL f m s) = true → lsO x s = true) ∧ ∀ k, k < m → ∀ x, Q k x → lsO x (srvL f m s) = false
  | 0 => ⟨fun _ h => h, fun k hk => absurd hk (Nat.not_lt_zero k)⟩
  | m + 1 => by
    obtain ⟨h1, h2⟩ := srvL_le hf s m
    obtain ⟨g1, g2⟩ := hf m (srvL f m s)
    refine ⟨fun x hx => h1 x (g1 x hx), fun k hk x hq => ?_⟩
    by_cases e : k = m
    · rw [e] at hq
      exact g2 x hq
    · have h3 := h2 k (by omega) x hq
      cases h4 : lsO x (srvL f (m + 1) s) with
      | false => rfl
      | true => rw [g1 x h4] at h3; cases h3
theorem srv_le {p : Int} : ∀ (r e : Nat) (h : Hm) (c : Nat) (w : Nat → Nat) (st : PSt), (∀ x, lsO x (srv p r e h c w st) = true → lsO x st = true) ∧ ∀ m, Rch p r h m → lsO (c + m) (srv p r e h c w st) = false
  | 0, e, h, c, w, st => by
    unfold srv
    by_cases hp' : hp h = p
    · rw [decide_eq_true hp', Bool.true_and]
      cases hc : lsO c st with
      | false =>
        refine ⟨fun x hx => hx, fun m hm => ?_⟩
        rw [hm.2, Nat.add_zero]
        exact hc
      | true =>
        refine ⟨fun x hx => ?_, fun m hm => ?_⟩
        · exact lsO_mono (Nat.le_of_lt (of_decide_eq_true hx)) hc
        · rw [hm.2, Nat.add_zero]
          exact decide_eq_false (Nat.lt_irrefl c)
    · rw [decide_eq_false hp', Bool.false_and]
      exact ⟨fun x hx => hx, fun m hm => absurd hm.1 hp'⟩
  | r + 1, e, h, c, w, st => by
    unfold srv
    have q := srvL_le (f := fun k s => srv p r (e + 1) (stp h k) (c + pk1 k) (updW w e k) s) (Q := fun k x => ∃ m', Rch p r (stp h k) m' ∧ x = c + pk1 k + m') (fun k s => by
      have := srv_le (p := p) r (e + 1) (stp h k) (c + pk1 k) (updW w e k) s
      refine ⟨this.1, fun x hx => ?_⟩
      obtain ⟨m', h1, h2⟩ := hx
      rw [h2]
      exact this.2 m' h1) st (hn h + 1)
    refine ⟨q.1, fun m hm => ?_⟩
    obtain ⟨k, m', h1, h2, h3⟩ := hm
    refine q.2 k (by omega) (c + m) ⟨m', h2, by omega⟩
theorem stp_V {b : Nat} {h : Hm} (hv : HV b h) (k : Nat) : HV (b + 1) (stp h k) := goH_V hv (stw_le _ _)
theorem goH_p {b : Nat} {h : Hm} {w : Nat} (hv : HV b h) (hw' : w ≤ hn h) : hp (goH h w) - hp h ≤ 3 ∧ hp h - hp (goH h w) ≤ 3 := by
  have e : hp (goH h w) = if w = 0 then hp h else hp h + hN h (w - 1) := rfl
  rw [e]
  split
  · omega
  · have := hv.2.2.2.2.2 (w - 1) (by omega)
    omega
theorem Rch_far {p : Int} : ∀ (r : Nat) {b : Nat} {h : Hm} {m : Nat}, HV b h → Rch p r h m → p - hp h ≤ 3 * (r : Int) ∧ hp h - p ≤ 3 * (r : Int)
  | 0, b, h, m, _, hr => by
    have := hr.1
    omega
  | r + 1, b, h, m, hv, hr => by
    obtain ⟨k, m', h1, h2, h3⟩ := hr
    have q := Rch_far r (stp_V hv k) h2
    have q2 := goH_p (w := stw h (if k = 0 then hf h else hf h ||| 2 ^ (k - 1))) hv (stw_le _ _)
    have e : hp (stp h k) = hp (goH h (stw h (if k = 0 then hf h else hf h ||| 2 ^ (k - 1)))) := rfl
    rw [e] at q
    omega
theorem srv_far {p : Int} {r e : Nat} {b : Nat} {h : Hm} {c : Nat} {w : Nat → Nat} {st : PSt} (hv : HV b h) (hf : ¬ (p - hp h ≤ 3 * (r : Int) ∧ hp h - p ≤ 3 * (r : Int))) : srv p r e h c w st = st :=
  srv_skip _ _ _ _ _ _ (fun _ hm => absurd (Rch_far r hv hm) hf)
theorem srv_big {p : Int} {r e : Nat} {h : Hm} {c : Nat} {w : Nat → Nat} {st : PSt} (hc : lsO c st = false) : srv p r e h c w st = st :=
  srv_skip _ _ _ _ _ _ (fun m _ => lsO_anti (Nat.le_add_right c m) hc)
/-- peas that don't change who steers are never of the fewest -/
theorem srvL_same {p : Int} {r e : Nat} {h : Hm} {c : Nat} {w : Nat → Nat} {st : PSt} {k : Nat} (hk : 0 < k) (hs : stp h k = stp h 0) : srvL (fun k s => srv p r (e + 1) (stp h k) (c + pk1 k) (updW w e k) s) (k + 1) st = srvL (fun k s => srv p r (e + 1) (stp h k) (c + pk1 k) (updW w e k) s) k st := by
  show srv p r (e + 1) (stp h k) (c + pk1 k) (updW w e k) (srvL _ k st) = _
  refine srv_skip _ _ _ _ _ _ (fun m hm => ?_)
  have q := srvL_le (f := fun k s => srv p r (e + 1) (stp h k) (c + pk1 k) (updW w e k) s) (Q := fun k x => ∃ m', Rch p r (stp h k) m' ∧ x = c + pk1 k + m') (fun k s => by
    have := srv_le r (e + 1) (stp h k) (c + pk1 k) (updW w e k) s (p := p)
    refine ⟨this.1, fun x hx => ?_⟩
    obtain ⟨m', h1, h2⟩ := hx
    rw [h2]
    exact this.2 m' h1) st k
  rw [hs] at hm
  have := q.2 0 hk (c + m) ⟨m, hm, by show c + m = c + pk1 0 + m; rfl⟩
  refine lsO_anti ?_ this
  have : pk1 k = 1 := if_neg (by omega)
  omega
/-- as the class tells a way -/
def dig (k : Nat) : Nat := if k = 0 then 6 else k - 1
theorem dig_le {k : Nat} (h : k ≤ 6) : dig k ≤ 6 := by unfold dig; split <;> omega
def PQ (i : MI0) (P n : Nat) (p : Int) (st : PSt) : Prop := i P 3 = iN p ∧ i P 4 = nI n ∧ i P 5 = nI (fO n st) ∧ ∀ c L, st = some (c, L) → c ≤ n ∧ ∀ j, j < n → i (P + 3) j = nI (dig (L j))
def SVq (i : MI0) (P n : Nat) (p : Int) (st : PSt) (e : Nat) (i' : MI0) : Prop := PQ i' P n p st ∧ (∀ j, j < e → i' (P + 2) j = i (P + 2) j) ∧ ∀ q, (q < P ∨ P + 23 < q ∨ q = P + 1 ∨ (P + 4 ≤ q ∧ q ≤ P + 4 + 4 * e + 3)) → i' q = i q
theorem fO_le {n : Nat} {i : MI0} {P : Nat} {p : Int} {st : PSt} (h : PQ i P n p st) : fO n st ≤ n + 1 := by
  match st, h with
  | none, _ => exact Nat.le_refl _
  | some (c, L), h => exact Nat.le_succ_of_le (h.2.2.2 c L rfl).1
theorem lsO_f {n c : Nat} {st : PSt} (hc : c ≤ n) : lsO c st = true ↔ c < fO n st := by
  match st with
  | none => exact ⟨fun _ => Nat.lt_succ_of_le hc, fun _ => rfl⟩
  | some q => exact ⟨fun h => of_decide_eq_true h, fun h => decide_eq_true h⟩
theorem lsO_no {n c : Nat} {st : PSt} (hc : c ≤ n) (h : fO n st ≤ c) : lsO c st = false := by
  cases q : lsO c st with
  | false => rfl
  | true => exact absurd ((lsO_f hc).mp q) (by omega)
theorem abs_iN {z : Int} (h1 : -1000000 ≤ z) (h2 : z ≤ 1000000) : (if (0 : Int32) ≤ iN z then iN z else 0 - iN z) = iN (if 0 ≤ z then z else -z) := by
  rw [show (0 : Int32) = iN 0 from rfl]
  by_cases h : 0 ≤ z
  · rw [if_pos h, if_pos ((iN_le (x := 0) (by omega) (by omega) (by omega) (by omega)).mpr h)]
  · rw [if_neg h, if_neg (fun q => h ((iN_le (x := 0) (by omega) (by omega) (by omega) (by omega)).mp q)), iN_sub]
    congr 1
    omega
theorem pI_inj {a b : Nat} (ha : a < 1000) (hb : b < 1000) : pI a = pI b ↔ a = b := by
  rw [pI_iN, pI_iN, iN_inj (by omega) (by omega) (by omega) (by omega)]
  omega
theorem stp_s {h : Hm} {j : Nat} (q : stw h (hf h ||| 2 ^ j) = stw h (hf h)) : stp h (j + 1) = stp h 0 := by
  unfold stp
  rw [if_neg (by omega), if_pos rfl, show j + 1 - 1 = j by omega, q]
theorem SVq.trans {i i1 i2 : MI0} {P n e e' : Nat} {p : Int} {s1 s2 : PSt} (h1 : SVq i P n p s1 e i1) (h2 : SVq i1 P n p s2 e' i2) (he : e ≤ e') : SVq i P n p s2 e i2 :=
  ⟨h2.1, fun j hj => (h2.2.1 j (by omega)).trans (h1.2.1 j hj), fun q hq => (h2.2.2 q (by omega)).trans (h1.2.2 q hq)⟩
