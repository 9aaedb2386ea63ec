/-! ===== a call on the one leaves the other ===== -/
theorem MI2.fr {M M' : Mm} {Y lo hi : Nat} {s : Ab} (h : MI2 M Y s) (f : Fr M M' lo hi) (hc : hi ≤ Y) : MI2 M' Y s := by
  obtain ⟨hY, hR⟩ := h
  have e : ∀ q, Y ≤ q → mi M' q = mi M q ∧ ml M' q = ml M q ∧ mr M' q = mr M q := fun q hq => f.2.2 q (Or.inr (by omega))
  refine ⟨?_, ?_⟩
  · unfold YS at hY ⊢
    rw [sT_mt, sR_mr, f.1, (e Y (Nat.le_refl Y)).2.2]
    exact hY
  · unfold MR MV MH at hR ⊢
    rw [(e Y (by omega)).1, (e (Y + 1) (by omega)).1, (e (Y + 2) (by omega)).1, (e (Y + 3) (by omega)).1, (e (Y + 4) (by omega)).1, (e (Y + 5) (by omega)).1, (e (Y + 6) (by omega)).1, (e (Y + 7) (by omega)).1, (e (Y + 8) (by omega)).1, (e (Y + 9) (by omega)).1, (e (Y + 12) (by omega)).1, (e (Y + 18) (by omega)).1, (e (Y + 19) (by omega)).1, show sL M'.2 Y = sL M.2 Y from (e Y (by omega)).2.1]
    exact hR
theorem CI.fr {M M' : Mm} {X lo hi b : Nat} {s : Ab} (h : CI M X s) (hv : AV b s) (f : Fr M M' lo hi) (hc : X + 211 ≤ lo) : CI M' X s := by
  obtain ⟨g, hP, hR⟩ := h
  have e : ∀ q, q < X + 211 → mi M' q = mi M q ∧ ml M' q = ml M q ∧ mr M' q = mr M q := fun q hq => f.2.2 q (Or.inl (by omega))
  have k : ∀ a c, c ≤ X + 210 → Kq M M' a c := fun a c hac q _ h2 => ⟨congrFun f.1 q, (e q (by omega)).2.2⟩
  refine ⟨g, ?_, hR.kp hP hv (fun q h1 h2 _ _ => (e q (by omega)).1)⟩
  obtain ⟨⟨c1, ⟨r0, r1, r2, r3, r4, r5, r6, r7⟩, c2, ⟨v1, v2, v3, v4⟩, ⟨i1, i2, i3⟩, c3, c4, c5, c6, c7⟩, p1, p2, p3, p4⟩ := hP
  have x := (e X (by omega)).2.2
  have y := (e (X + 90) (by omega)).2.2
  exact ⟨⟨(congrFun f.1 X).trans c1, ⟨(congrFun x 0).trans r0, (congrFun x 1).trans r1, (congrFun x 2).trans r2, (congrFun x 3).trans r3, (congrFun x 4).trans r4, (congrFun x 5).trans r5, (congrFun x 6).trans r6, (congrFun x 7).trans r7⟩, c2.k2 (k _ _ (by omega)), ⟨v1.k2 (k _ _ (by omega)), v2.k2 (k _ _ (by omega)), v3.k2 (k _ _ (by omega)), v4.k2 (k _ _ (by omega))⟩, ⟨(congrFun f.1 _).trans i1, (congrFun y 0).trans i2, (congrFun y 1).trans i3⟩, (congrFun f.1 _).trans c3, c4.k2 (k _ _ (by omega)), c5.k2 (k _ _ (by omega)), c6.k2 (k _ _ (by omega)), c7.k2 (k _ _ (by omega))⟩, p1.k2 (k _ _ (by omega)), p2.k2 (k _ _ (by omega)), p3.k2 (k _ _ (by omega)), p4.k2 (k _ _ (by omega))⟩
