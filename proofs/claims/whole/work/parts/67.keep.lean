/-! ===== the bounds are kept by every call ===== -/
theorem VV.mono {b c : Nat} {y : Vy} (h : VV b y) (hbc : b ≤ c) : VV c y :=
  ⟨h.1.mono hbc, h.2.1, h.2.2.1, h.2.2.2.1, h.2.2.2.2.1, fun u hu => ⟨(h.2.2.2.2.2 u hu).1.mono hbc, (h.2.2.2.2.2 u hu).2⟩⟩
theorem AV.mono {b c : Nat} {s : Ab} (h : AV b s) (hbc : b ≤ c) : AV c s :=
  ⟨h.1.mono hbc, fun k hk hK => (h.2.1 k hk hK).mono hbc, h.2.2⟩
theorem AV.up {b : Nat} {s : Ab} (h : AV b s) : AV (b + 1) s := h.mono (Nat.le_succ b)
theorem AV.bad {b : Nat} {s : Ab} (h : AV b s) : AV b (bad s) := h
theorem AV.noo {b : Nat} {s : Ab} (h : AV b s) : AV b (noo s) := h
theorem AV.ful {b : Nat} {s : Ab} (h : AV b s) : AV b (ful s) := h
theorem AV.setV {b : Nat} {s : Ab} {y : Vy} (h : AV b s) (hy : VV b y) : AV b (setV s y) := ⟨hy, h.2⟩
theorem AV.setT {b : Nat} {s : Ab} {n : Nat} {f : Nat → Nat} (h : AV b s) (hn : n ≤ 150) (hf : ∀ j, j < n → f j < 128) : AV b (setT s n f) := ⟨h.1, h.2.1, hn, hf, h.2.2.2.2⟩
theorem AV.setF {b : Nat} {s : Ab} {u w : Nat} (h : AV b s) (hu : u ≤ 100000000) (hw : w ≤ 1000000) : AV b (setF s u w) := ⟨h.1, h.2.1, h.2.2.1, h.2.2.2.1, hu, hw⟩
theorem AV.setI {b : Nat} {s : Ab} {k : Nat} {y : Vy} (h : AV b s) (hy : VV b y) : AV b (setI s k y) := by
  refine ⟨h.1, fun j hj hK => ?_, h.2.2⟩
  show VV b (if j = k then y else aI s j)
  by_cases e : j = k
  · rw [if_pos e]; exact hy
  · rw [if_neg e]
    have hK2 : (if j = k then true else aK s j) = true := hK
    rw [if_neg e] at hK2
    exact h.2.1 j hj hK2
theorem VV.wH {b : Nat} {y : Vy} {h : Hm} (hy : VV b y) (hh : HV b h) (e1 : hn h = hn (vh y)) (e2 : hK h = hK (vh y)) (e3 : hN h = hN (vh y)) : VV b (wH y h) := by
  obtain ⟨h1, h2, h3, h4, h5, h6⟩ := hy
  refine ⟨hh, h2, h3, h4, h5, fun u hu => ?_⟩
  obtain ⟨a1, a2, a3⟩ := h6 u hu
  refine ⟨a1, a2.trans e1.symm, fun j hj => ?_⟩
  show hK (vU y u) j = hK h j ∧ hN (vU y u) j = hN h j
  rw [e2, e3]
  exact a3 j (by rw [← e1]; exact hj)
theorem keep_ship {b : Nat} {s : Ab} (h : AV b s) : AV (b + 1) (oShip s).2 := (h.setV (vy0_V b)).up
theorem keep_rock {b : Nat} {s : Ab} (h : AV b s) (p : Int32) : AV (b + 1) (oRock s p).2 := by
  unfold oRock
  split
  · split
    · exact h.up
    · split
      · next h6 => exact (h.setV (VV_adR h.1 h6)).up
      · exact h.up
  · exact h.up
theorem i32_b {n : Int32} (h : (-3 : Int32) ≤ n ∧ n ≤ 3) : -3 ≤ n.toInt ∧ n.toInt ≤ 3 := ⟨Int32.le_iff_toInt_le.mp h.1, Int32.le_iff_toInt_le.mp h.2⟩
theorem keep_hand {b : Nat} {s : Ab} (h : AV b s) (k t n : Int32) : AV (b + 1) (oHand s k t n).2 := by
  unfold oHand
  split
  · next hc =>
    split
    · next h6 => exact (h.setV (VV_adV h.1 h6 (cl_of (n := 5) hc.1 rfl (by decide)).2 (cl_of (n := 40) hc.2.1 rfl (by decide)).2 (i32_b hc.2.2).1 (i32_b hc.2.2).2)).up
    · exact h.up
  · exact h.up
theorem keep_type {b : Nat} {s : Ab} (h : AV b s) (c : Int32) : AV (b + 1) (oType s c).2 := by
  unfold oType
  split
  · next hc =>
    split
    · next h6 =>
      refine (h.setT (by omega) (fun j hj => ?_)).up
      have := (cl_of (n := 127) hc rfl (by decide)).2
      by_cases e : j = aL s
      · simp only [e, if_true]; omega
      · simp only [e, if_false]; exact h.2.2.2.1 j (by omega)
    · exact h.up
  · exact h.up
theorem keep_clear {b : Nat} {s : Ab} (h : AV b s) : AV (b + 1) (oClear s).2 := (h.setT (Nat.zero_le _) (fun j hj => absurd hj (Nat.not_lt_zero j))).up
theorem keep_read {b : Nat} {s : Ab} (h : AV b s) : AV (b + 1) (oRead s).2 := by
  unfold oRead
  split
  · exact (h.setV (pAll_ok b _ _).2.2).up
  · exact h.up
theorem isH_lt {b : Nat} {s : Ab} (h : AV b s) {k : Int32} (hk : isH s k) : k.toNatClampNeg < hn (vh (aV s)) := by
  obtain ⟨j, hj, rfl⟩ := isH_of h hk
  have h6 := h.1.1.1
  rw [cln (by omega)]
  exact hj
theorem keep_feed {b : Nat} {s : Ab} (h : AV b s) (k : Int32) : AV (b + 1) (oFeed s k).2 := by
  unfold oFeed
  split
  · next hk =>
    split
    · exact h.up
    · refine (h.setV ?_).up
      have hr := AV_rem h.1
      refine VV.wH hr ?_ rfl rfl rfl
      obtain ⟨a1, a2, a3, a4, a5, a6⟩ := hr.1
      exact ⟨a1, Nat.or_lt_two_pow a2 (Nat.pow_lt_pow_right (by decide) (isH_lt h hk)), a3, a4, a5, a6⟩
  · exact h.up
theorem keep_watch {b : Nat} {s : Ab} (h : AV b s) : AV (b + 1) (oWatch s).2 := h.up.setV (VV.wH ((AV_rem h.1).mono (Nat.le_succ b)) (pas_V h.1.1) rfl rfl rfl)
theorem keep_undo {b : Nat} {s : Ab} (h : AV b s) : AV (b + 1) (oUndo s).2 := by
  unfold oUndo
  split
  · exact h.up
  · next h0 =>
    refine (h.setV ?_).up
    obtain ⟨h1, h2, h3, h4, h5, h6⟩ := h.1
    obtain ⟨a1, a2, a3⟩ := h6 (vu (aV s) - 1) (by omega)
    refine ⟨a1, h2, h3, by show vu (aV s) - 1 ≤ 8; omega, h5, fun u hu => ?_⟩
    replace hu : u < vu (aV s) - 1 := hu
    obtain ⟨c1, c2, c3⟩ := h6 u (by omega)
    refine ⟨c1, c2.trans a2.symm, fun j hj => ?_⟩
    replace hj : j < hn (vU (aV s) (vu (aV s) - 1)) := hj
    exact ⟨(c3 j (by omega)).1.trans (a3 j (by omega)).1.symm, (c3 j (by omega)).2.trans (a3 j (by omega)).2.symm⟩
theorem keep_seen {b : Nat} {s : Ab} (h : AV b s) (m p : Int32) : AV (b + 1) (oSeen s m p).2 := by
  unfold oSeen
  split
  · next hc =>
    split
    · next h6 =>
      refine (h.setV ?_).up
      obtain ⟨h1, h2, h3, h4, h5, h7⟩ := h.1
      refine ⟨h1, h2, by show vs (aV s) + 1 ≤ 6; omega, h4, fun j hj => ?_, h7⟩
      show (if j = vs (aV s) then m.toNatClampNeg else vW (aV s) j) ≤ 20
      have := (cl_of (n := 20) hc.1 rfl (by decide)).2
      replace hj : j < vs (aV s) + 1 := hj
      by_cases e : j = vs (aV s)
      · rw [if_pos e]; exact this
      · rw [if_neg e]; exact h5 j (by omega)
    · exact h.up
  · exact h.up
theorem keep_forget {b : Nat} {s : Ab} (h : AV b s) : AV (b + 1) (oForget s).2 := (h.setV (y := (vh (aV s), vr (aV s), vR (aV s), 0, vW (aV s), vP (aV s), vu (aV s), vU (aV s))) ⟨h.1.1, h.1.2.1, Nat.zero_le _, h.1.2.2.2.1, fun j hj => absurd hj (Nat.not_lt_zero j), h.1.2.2.2.2.2⟩).up
theorem keep_image {b : Nat} {s : Ab} (h : AV b s) (k : Int32) : AV (b + 1) (oImage s k).2 := by
  unfold oImage
  split
  · exact (h.setI h.1).up
  · exact h.up
theorem keep_from {b : Nat} {s : Ab} (h : AV b s) (k : Int32) : AV (b + 1) (oFrom s k).2 := by
  unfold oFrom
  split
  · next hc =>
    split
    · next hk => exact (h.setV (h.2.1 _ (by have := (cl_of (n := 1) hc rfl (by decide)).2; omega) hk)).up
    · exact h.up
  · exact h.up
theorem keep_odds {b : Nat} {s : Ab} (h : AV b s) (k c : Int32) : AV (b + 1) (oOdds s k c).2 := by
  unfold oOdds
  split
  · next hc =>
    have h1 := chn_le (k := k.toNatClampNeg) h.1.1 (cl_of (n := 10) hc.2 rfl (by decide)).2
    have h6 : 10 ^ hn (vh (aV s)) ≤ 10 ^ 6 := Nat.pow_le_pow_right (by decide) h.1.1.1
    exact (h.setF (Nat.le_trans (Nat.div_le_self _ _) (by omega)) (Nat.le_trans (Nat.div_le_self _ _) h6)).up
  · exact h.up
theorem keep_of {b : Nat} {s : Ab} (h : AV b s) (k w : Int32) : AV (b + 1) (oOf s k w).2 := by unfold oOf; split <;> exact h.up
theorem keep_now {b : Nat} {s : Ab} (h : AV b s) (w : Int32) : AV (b + 1) (oNow s w).2 := by unfold oNow; split; exact h.up; split; exact h.up; split <;> exact h.up
theorem keep_then {b : Nat} {s : Ab} (h : AV b s) (m w : Int32) : AV (b + 1) (oThen s m w).2 := by unfold oThen; split <;> exact h.up
theorem keep_status {b : Nat} {s : Ab} (h : AV b s) (w : Int32) : AV (b + 1) (oStatus s w).2 := by unfold oStatus; split; exact h.up; split; exact h.up; split <;> exact h.up
theorem keep_part {b : Nat} {s : Ab} (h : AV b s) (w : Int32) : AV (b + 1) (oPart s w).2 := by unfold oPart; split; exact h.up; split <;> exact h.up
theorem keep_count {b : Nat} {s : Ab} (h : AV b s) (w : Int32) : AV (b + 1) (oCount s w).2 := by unfold oCount; split <;> exact h.up
theorem keep_canNot {b : Nat} {s : Ab} (h : AV b s) (k : Int32) : AV (b + 1) (oCanNot s k).2 := by unfold oCanNot; split <;> exact h.up
theorem keep_eat {b : Nat} {s : Ab} (h : AV b s) (k l : Int32) : AV (b + 1) (oEat s k l).2 := by unfold oEat; split <;> exact h.up
theorem keep_voyages {b : Nat} {s : Ab} (h : AV b s) (k l : Int32) : AV (b + 1) (oVoyages s k l).2 := by unfold oVoyages; split <;> exact h.up
theorem keep_nod {b : Nat} {s : Ab} (h : AV b s) (k : Int32) : AV (b + 1) (oNod s k).2 := by unfold oNod; split <;> exact h.up
theorem keep_pulled {b : Nat} {s : Ab} (h : AV b s) (k : Int32) : AV (b + 1) (oPulled s k).2 := by unfold oPulled; split <;> exact h.up
theorem keep_is {b : Nat} {s : Ab} (h : AV b s) (k : Int32) : AV (b + 1) (oIs s k).2 := by unfold oIs; split <;> exact h.up
theorem keep_look {b : Nat} {s : Ab} (h : AV b s) (k : Int32) : AV (b + 1) (oLook s k).2 := by unfold oLook; split <;> exact h.up
theorem keep_meet {b : Nat} {s : Ab} (h : AV b s) (p q w : Int32) : AV (b + 1) (oMeet s p q w).2 := by unfold oMeet; split <;> exact h.up
theorem keep_peas {b : Nat} {s : Ab} (h : AV b s) (p q w : Int32) : AV (b + 1) (oPeas s p q w).2 := by unfold oPeas; split <;> exact h.up
theorem keep_strikes {b : Nat} {s : Ab} (h : AV b s) : AV (b + 1) (oStrikes s).2 := h.up
theorem keep_digest {b : Nat} {s : Ab} (h : AV b s) : AV (b + 1) (oDigest s).2 := h.up
theorem ab0_V : AV 0 ab0 := ⟨vy0_V 0, (fun k _ hK => by cases hK), Nat.zero_le _, (fun j hj => absurd hj (Nat.not_lt_zero j)), Nat.zero_le _, by decide⟩
