/-! ===== the world at the entry of the law ===== -/
set_option maxRecDepth 100000 in
set_option maxHeartbeats 4000000 in
theorem env_start {s : State} {b L : Nat} {xs : Nat → Int32} (hts : ∀ w ∈ lw_tbl, w.before #[Value.ref b] s = true) (hX : va_X b L xs s s.heap) (hbl : b < s.heap.size) (hgv : (Jvm.Cond.and given_1 narrow_1).before #[Value.ref b] s = true) : ∃ (D1 : Nat → ClassId) (D2 : Nat → Nat → Nat) (A : Nat → ClassId) (gs : Nat → Nat), EnvOk ((D1, D2, A, gs, s.heap.size, b, L, xs) : GE) s := by
  have hG : ∀ w ∈ wsG, w.before #[Value.ref b] s = true := fun w hw => hts w (List.mem_filter.mp hw).1
  have hA : ∀ a : Nat, a < s.heap.size → ¬ (fun q : Nat => s.heap.size ≤ q) a := fun a h => Nat.not_le.mpr h
  have h0 : ∀ k : Nat, ∃ q : ClassId × (Nat → Nat), ∀ r : vw_C, vwCl[k]? = some r → u_Kn s r.1 r.2.1 r.2.2 q.1 q.2 := by
    intro k
    by_cases hk : k < 13
    · rcases (by omega : k = 0 ∨ k = 1 ∨ k = 2 ∨ k = 3 ∨ k = 4 ∨ k = 5 ∨ k = 6 ∨ k = 7 ∨ k = 8 ∨ k = 9 ∨ k = 10 ∨ k = 11 ∨ k = 12) with rfl | rfl | rfl | rfl | rfl | rfl | rfl | rfl | rfl | rfl | rfl | rfl | rfl
      · obtain ⟨cC, iS, h⟩ := u_known (ws := wsG) hG cok0.2.2.2.1 (hts (.instantiable RX0 0) (List.mem_of_getElem? (i := 131) (by decide +kernel)))
        exact ⟨(cC, iS), fun r hr => by cases hr; exact h⟩
      · obtain ⟨cC, iS, h⟩ := u_known (ws := wsG) hG cok1.2.2.2.1 (hts (.instantiable RX1 0) (List.mem_of_getElem? (i := 103) (by decide +kernel)))
        exact ⟨(cC, iS), fun r hr => by cases hr; exact h⟩
      · obtain ⟨cC, iS, h⟩ := u_known (ws := wsG) hG cok2.2.2.2.1 (hts (.instantiable RX2 0) (List.mem_of_getElem? (i := 117) (by decide +kernel)))
        exact ⟨(cC, iS), fun r hr => by cases hr; exact h⟩
      · obtain ⟨cC, iS, h⟩ := u_known (ws := wsG) hG cok3.2.2.2.1 (hts (.instantiable RX3 3) (List.mem_of_getElem? (i := 232) (by decide +kernel)))
        exact ⟨(cC, iS), fun r hr => by cases hr; exact h⟩
      · obtain ⟨cC, iS, h⟩ := u_known (ws := wsG) hG cok4.2.2.2.1 (hts (.instantiable RX4 8) (List.mem_of_getElem? (i := 145) (by decide +kernel)))
        exact ⟨(cC, iS), fun r hr => by cases hr; exact h⟩
      · obtain ⟨cC, iS, h⟩ := u_known (ws := wsG) hG cok5.2.2.2.1 (hts (.instantiable RX5 0) (List.mem_of_getElem? (i := 124) (by decide +kernel)))
        exact ⟨(cC, iS), fun r hr => by cases hr; exact h⟩
      · obtain ⟨cC, iS, h⟩ := u_known (ws := wsG) hG cok6.2.2.2.1 (hts (.instantiable RX6 6) (List.mem_of_getElem? (i := 253) (by decide +kernel)))
        exact ⟨(cC, iS), fun r hr => by cases hr; exact h⟩
      · obtain ⟨cC, iS, h⟩ := u_known (ws := wsG) hG cok7.2.2.2.1 (hts (.instantiable RX7 0) (List.mem_of_getElem? (i := 96) (by decide +kernel)))
        exact ⟨(cC, iS), fun r hr => by cases hr; exact h⟩
      · obtain ⟨cC, iS, h⟩ := u_known (ws := wsG) hG cok8.2.2.2.1 (hts (.instantiable RX8 0) (List.mem_of_getElem? (i := 110) (by decide +kernel)))
        exact ⟨(cC, iS), fun r hr => by cases hr; exact h⟩
      · obtain ⟨cC, iS, h⟩ := u_known (ws := wsG) hG cok9.2.2.2.1 (hts (.instantiable RX9 7) (List.mem_of_getElem? (i := 282) (by decide +kernel)))
        exact ⟨(cC, iS), fun r hr => by cases hr; exact h⟩
      · obtain ⟨cC, iS, h⟩ := u_known (ws := wsG) hG cok10.2.2.2.1 (hts (.instantiable RX10 8) (List.mem_of_getElem? (i := 138) (by decide +kernel)))
        exact ⟨(cC, iS), fun r hr => by cases hr; exact h⟩
      · obtain ⟨cC, iS, h⟩ := u_known (ws := wsG) hG cok11.2.2.2.1 (hts (.instantiable RX11 13) (List.mem_of_getElem? (i := 87) (by decide +kernel)))
        exact ⟨(cC, iS), fun r hr => by cases hr; exact h⟩
      · obtain ⟨cC, iS, h⟩ := u_known (ws := wsG) hG cok12.2.2.2.1 (hts (.instantiable RX12 33) (List.mem_of_getElem? (i := 827) (by decide +kernel)))
        exact ⟨(cC, iS), fun r hr => by cases hr; exact h⟩
    · refine ⟨(0, fun _ => 0), fun r hr => ?_⟩
      have : k < vwCl.length := (List.getElem?_eq_some_iff.mp hr).1
      exact absurd this (by simpa [vwCl] using hk)
  obtain ⟨f, hf⟩ := Classical.axiomOfChoice h0
  obtain ⟨cI, kI, pI, I1, I2, I3⟩ := Cond.arrayClass_spec (hts (.arrayClass .int) (List.mem_of_getElem? (i := 194) (by decide +kernel)))
  obtain ⟨cZ, kZ, pZ, Z1, Z2, Z3⟩ := Cond.arrayClass_spec (hts (.arrayClass .boolean) (List.mem_of_getElem? (i := 251) (by decide +kernel)))
  have aH := va_AO.of (hts (.arrayOver (.object "SleepyHelm$Helm")) (List.mem_of_getElem? (i := 144) (by decide +kernel)))
  obtain ⟨pH, cH, kH, H1, H2, H3, H4, H5⟩ := Cond.arrayOver_spec aH
  have aP := va_AO.of (hts (.arrayOver (.object "SleepyHelm$Plain")) (List.mem_of_getElem? (i := 95) (by decide +kernel)))
  obtain ⟨pP, cP, kP, P1, P2, P3, P4, P5⟩ := Cond.arrayOver_spec aP
  have aV := va_AO.of (hts (.arrayOver (.object "SleepyHelm$Voyage")) (List.mem_of_getElem? (i := 228) (by decide +kernel)))
  obtain ⟨pV, cV, kV, V1, V2, V3, V4, V5⟩ := Cond.arrayOver_spec aV
  have hs := flat_of_before _ hgv
  obtain ⟨adK, adV, hK, hT⟩ := vk_Sof (args := #[Value.ref b]) (s := s) (N := 5) (tm := fun i => Term.string "SleepyHelm$Text" (sIx.getD i (0, "")).1) (len := [4, 4, 4, 4, 4]) (byt := sBy) (A := fun q : Nat => s.heap.size ≤ q)
    (fun i hi => by rcases (by omega : i = 0 ∨ i = 1 ∨ i = 2 ∨ i = 3 ∨ i = 4) with rfl | rfl | rfl | rfl | rfl <;> decide)
    (fun i hi => by
      rcases (by omega : i = 0 ∨ i = 1 ∨ i = 2 ∨ i = 3 ∨ i = 4) with rfl | rfl | rfl | rfl | rfl
      · exact hs (Cond.exactly (Term.string "SleepyHelm$Text" 33) "java/lang/String") (by decide +kernel)
      · exact hs (Cond.exactly (Term.string "SleepyHelm$Text" 52) "java/lang/String") (by decide +kernel)
      · exact hs (Cond.exactly (Term.string "SleepyHelm$Text" 58) "java/lang/String") (by decide +kernel)
      · exact hs (Cond.exactly (Term.string "SleepyHelm$Text" 60) "java/lang/String") (by decide +kernel)
      · exact hs (Cond.exactly (Term.string "SleepyHelm$Text" 65) "java/lang/String") (by decide +kernel))
    (fun i hi => by
      rcases (by omega : i = 0 ∨ i = 1 ∨ i = 2 ∨ i = 3 ∨ i = 4) with rfl | rfl | rfl | rfl | rfl
      · exact hs (Cond.eq (Term.field (Term.string "SleepyHelm$Text" 33) "java/lang/String" "coder" "B") (.int 0)) (by decide +kernel)
      · exact hs (Cond.eq (Term.field (Term.string "SleepyHelm$Text" 52) "java/lang/String" "coder" "B") (.int 0)) (by decide +kernel)
      · exact hs (Cond.eq (Term.field (Term.string "SleepyHelm$Text" 58) "java/lang/String" "coder" "B") (.int 0)) (by decide +kernel)
      · exact hs (Cond.eq (Term.field (Term.string "SleepyHelm$Text" 60) "java/lang/String" "coder" "B") (.int 0)) (by decide +kernel)
      · exact hs (Cond.eq (Term.field (Term.string "SleepyHelm$Text" 65) "java/lang/String" "coder" "B") (.int 0)) (by decide +kernel))
    (fun i hi => by
      rcases (by omega : i = 0 ∨ i = 1 ∨ i = 2 ∨ i = 3 ∨ i = 4) with rfl | rfl | rfl | rfl | rfl
      · exact hs (Cond.arrayOf (Term.field (Term.string "SleepyHelm$Text" 33) "java/lang/String" "value" "[B") .byte) (by decide +kernel)
      · exact hs (Cond.arrayOf (Term.field (Term.string "SleepyHelm$Text" 52) "java/lang/String" "value" "[B") .byte) (by decide +kernel)
      · exact hs (Cond.arrayOf (Term.field (Term.string "SleepyHelm$Text" 58) "java/lang/String" "value" "[B") .byte) (by decide +kernel)
      · exact hs (Cond.arrayOf (Term.field (Term.string "SleepyHelm$Text" 60) "java/lang/String" "value" "[B") .byte) (by decide +kernel)
      · exact hs (Cond.arrayOf (Term.field (Term.string "SleepyHelm$Text" 65) "java/lang/String" "value" "[B") .byte) (by decide +kernel))
    (fun i hi => by
      rcases (by omega : i = 0 ∨ i = 1 ∨ i = 2 ∨ i = 3 ∨ i = 4) with rfl | rfl | rfl | rfl | rfl
      · exact hs (Cond.eq (.length (Term.field (Term.string "SleepyHelm$Text" 33) "java/lang/String" "value" "[B")) (.int 4)) (by decide +kernel)
      · exact hs (Cond.eq (.length (Term.field (Term.string "SleepyHelm$Text" 52) "java/lang/String" "value" "[B")) (.int 4)) (by decide +kernel)
      · exact hs (Cond.eq (.length (Term.field (Term.string "SleepyHelm$Text" 58) "java/lang/String" "value" "[B")) (.int 4)) (by decide +kernel)
      · exact hs (Cond.eq (.length (Term.field (Term.string "SleepyHelm$Text" 60) "java/lang/String" "value" "[B")) (.int 4)) (by decide +kernel)
      · exact hs (Cond.eq (.length (Term.field (Term.string "SleepyHelm$Text" 65) "java/lang/String" "value" "[B")) (.int 4)) (by decide +kernel))
    (fun i hi j hj => by
      have hj4 : j < 4 := by
        rcases (by omega : i = 0 ∨ i = 1 ∨ i = 2 ∨ i = 3 ∨ i = 4) with rfl | rfl | rfl | rfl | rfl <;> exact hj
      clear hj
      rcases (by omega : i = 0 ∨ i = 1 ∨ i = 2 ∨ i = 3 ∨ i = 4) with rfl | rfl | rfl | rfl | rfl
      · rcases (by omega : j = 0 ∨ j = 1 ∨ j = 2 ∨ j = 3) with rfl | rfl | rfl | rfl
        · exact hs (Cond.eq (.elem (Term.field (Term.string "SleepyHelm$Text" 33) "java/lang/String" "value" "[B") (.int 0)) (.int 115)) (by decide +kernel)
        · exact hs (Cond.eq (.elem (Term.field (Term.string "SleepyHelm$Text" 33) "java/lang/String" "value" "[B") (.int 1)) (.int 104)) (by decide +kernel)
        · exact hs (Cond.eq (.elem (Term.field (Term.string "SleepyHelm$Text" 33) "java/lang/String" "value" "[B") (.int 2)) (.int 105)) (by decide +kernel)
        · exact hs (Cond.eq (.elem (Term.field (Term.string "SleepyHelm$Text" 33) "java/lang/String" "value" "[B") (.int 3)) (.int 112)) (by decide +kernel)
      · rcases (by omega : j = 0 ∨ j = 1 ∨ j = 2 ∨ j = 3) with rfl | rfl | rfl | rfl
        · exact hs (Cond.eq (.elem (Term.field (Term.string "SleepyHelm$Text" 52) "java/lang/String" "value" "[B") (.int 0)) (.int 114)) (by decide +kernel)
        · exact hs (Cond.eq (.elem (Term.field (Term.string "SleepyHelm$Text" 52) "java/lang/String" "value" "[B") (.int 1)) (.int 111)) (by decide +kernel)
        · exact hs (Cond.eq (.elem (Term.field (Term.string "SleepyHelm$Text" 52) "java/lang/String" "value" "[B") (.int 2)) (.int 99)) (by decide +kernel)
        · exact hs (Cond.eq (.elem (Term.field (Term.string "SleepyHelm$Text" 52) "java/lang/String" "value" "[B") (.int 3)) (.int 107)) (by decide +kernel)
      · rcases (by omega : j = 0 ∨ j = 1 ∨ j = 2 ∨ j = 3) with rfl | rfl | rfl | rfl
        · exact hs (Cond.eq (.elem (Term.field (Term.string "SleepyHelm$Text" 58) "java/lang/String" "value" "[B") (.int 0)) (.int 114)) (by decide +kernel)
        · exact hs (Cond.eq (.elem (Term.field (Term.string "SleepyHelm$Text" 58) "java/lang/String" "value" "[B") (.int 1)) (.int 101)) (by decide +kernel)
        · exact hs (Cond.eq (.elem (Term.field (Term.string "SleepyHelm$Text" 58) "java/lang/String" "value" "[B") (.int 2)) (.int 101)) (by decide +kernel)
        · exact hs (Cond.eq (.elem (Term.field (Term.string "SleepyHelm$Text" 58) "java/lang/String" "value" "[B") (.int 3)) (.int 102)) (by decide +kernel)
      · rcases (by omega : j = 0 ∨ j = 1 ∨ j = 2 ∨ j = 3) with rfl | rfl | rfl | rfl
        · exact hs (Cond.eq (.elem (Term.field (Term.string "SleepyHelm$Text" 60) "java/lang/String" "value" "[B") (.int 0)) (.int 104)) (by decide +kernel)
        · exact hs (Cond.eq (.elem (Term.field (Term.string "SleepyHelm$Text" 60) "java/lang/String" "value" "[B") (.int 1)) (.int 97)) (by decide +kernel)
        · exact hs (Cond.eq (.elem (Term.field (Term.string "SleepyHelm$Text" 60) "java/lang/String" "value" "[B") (.int 2)) (.int 110)) (by decide +kernel)
        · exact hs (Cond.eq (.elem (Term.field (Term.string "SleepyHelm$Text" 60) "java/lang/String" "value" "[B") (.int 3)) (.int 100)) (by decide +kernel)
      · rcases (by omega : j = 0 ∨ j = 1 ∨ j = 2 ∨ j = 3) with rfl | rfl | rfl | rfl
        · exact hs (Cond.eq (.elem (Term.field (Term.string "SleepyHelm$Text" 65) "java/lang/String" "value" "[B") (.int 0)) (.int 108)) (by decide +kernel)
        · exact hs (Cond.eq (.elem (Term.field (Term.string "SleepyHelm$Text" 65) "java/lang/String" "value" "[B") (.int 1)) (.int 101)) (by decide +kernel)
        · exact hs (Cond.eq (.elem (Term.field (Term.string "SleepyHelm$Text" 65) "java/lang/String" "value" "[B") (.int 2)) (.int 97)) (by decide +kernel)
        · exact hs (Cond.eq (.elem (Term.field (Term.string "SleepyHelm$Text" 65) "java/lang/String" "value" "[B") (.int 3)) (.int 110)) (by decide +kernel)
      )
    (fun i j hi hj hij => by
      rcases (by omega : i = 0 ∨ i = 1 ∨ i = 2 ∨ i = 3 ∨ i = 4) with rfl | rfl | rfl | rfl | rfl
      · rcases (by omega : j = 0 ∨ j = 1 ∨ j = 2 ∨ j = 3 ∨ j = 4) with rfl | rfl | rfl | rfl | rfl
        · exact absurd rfl hij
        · exact Or.inl (hs (Cond.not (Cond.eq (Term.string "SleepyHelm$Text" 33) (Term.string "SleepyHelm$Text" 52))) (by decide +kernel))
        · exact Or.inl (hs (Cond.not (Cond.eq (Term.string "SleepyHelm$Text" 33) (Term.string "SleepyHelm$Text" 58))) (by decide +kernel))
        · exact Or.inl (hs (Cond.not (Cond.eq (Term.string "SleepyHelm$Text" 33) (Term.string "SleepyHelm$Text" 60))) (by decide +kernel))
        · exact Or.inl (hs (Cond.not (Cond.eq (Term.string "SleepyHelm$Text" 33) (Term.string "SleepyHelm$Text" 65))) (by decide +kernel))
      · rcases (by omega : j = 0 ∨ j = 1 ∨ j = 2 ∨ j = 3 ∨ j = 4) with rfl | rfl | rfl | rfl | rfl
        · exact Or.inr (hs (Cond.not (Cond.eq (Term.string "SleepyHelm$Text" 33) (Term.string "SleepyHelm$Text" 52))) (by decide +kernel))
        · exact absurd rfl hij
        · exact Or.inl (hs (Cond.not (Cond.eq (Term.string "SleepyHelm$Text" 52) (Term.string "SleepyHelm$Text" 58))) (by decide +kernel))
        · exact Or.inl (hs (Cond.not (Cond.eq (Term.string "SleepyHelm$Text" 52) (Term.string "SleepyHelm$Text" 60))) (by decide +kernel))
        · exact Or.inl (hs (Cond.not (Cond.eq (Term.string "SleepyHelm$Text" 52) (Term.string "SleepyHelm$Text" 65))) (by decide +kernel))
      · rcases (by omega : j = 0 ∨ j = 1 ∨ j = 2 ∨ j = 3 ∨ j = 4) with rfl | rfl | rfl | rfl | rfl
        · exact Or.inr (hs (Cond.not (Cond.eq (Term.string "SleepyHelm$Text" 33) (Term.string "SleepyHelm$Text" 58))) (by decide +kernel))
        · exact Or.inr (hs (Cond.not (Cond.eq (Term.string "SleepyHelm$Text" 52) (Term.string "SleepyHelm$Text" 58))) (by decide +kernel))
        · exact absurd rfl hij
        · exact Or.inl (hs (Cond.not (Cond.eq (Term.string "SleepyHelm$Text" 58) (Term.string "SleepyHelm$Text" 60))) (by decide +kernel))
        · exact Or.inl (hs (Cond.not (Cond.eq (Term.string "SleepyHelm$Text" 58) (Term.string "SleepyHelm$Text" 65))) (by decide +kernel))
      · rcases (by omega : j = 0 ∨ j = 1 ∨ j = 2 ∨ j = 3 ∨ j = 4) with rfl | rfl | rfl | rfl | rfl
        · exact Or.inr (hs (Cond.not (Cond.eq (Term.string "SleepyHelm$Text" 33) (Term.string "SleepyHelm$Text" 60))) (by decide +kernel))
        · exact Or.inr (hs (Cond.not (Cond.eq (Term.string "SleepyHelm$Text" 52) (Term.string "SleepyHelm$Text" 60))) (by decide +kernel))
        · exact Or.inr (hs (Cond.not (Cond.eq (Term.string "SleepyHelm$Text" 58) (Term.string "SleepyHelm$Text" 60))) (by decide +kernel))
        · exact absurd rfl hij
        · exact Or.inl (hs (Cond.not (Cond.eq (Term.string "SleepyHelm$Text" 60) (Term.string "SleepyHelm$Text" 65))) (by decide +kernel))
      · rcases (by omega : j = 0 ∨ j = 1 ∨ j = 2 ∨ j = 3 ∨ j = 4) with rfl | rfl | rfl | rfl | rfl
        · exact Or.inr (hs (Cond.not (Cond.eq (Term.string "SleepyHelm$Text" 33) (Term.string "SleepyHelm$Text" 65))) (by decide +kernel))
        · exact Or.inr (hs (Cond.not (Cond.eq (Term.string "SleepyHelm$Text" 52) (Term.string "SleepyHelm$Text" 65))) (by decide +kernel))
        · exact Or.inr (hs (Cond.not (Cond.eq (Term.string "SleepyHelm$Text" 58) (Term.string "SleepyHelm$Text" 65))) (by decide +kernel))
        · exact Or.inr (hs (Cond.not (Cond.eq (Term.string "SleepyHelm$Text" 60) (Term.string "SleepyHelm$Text" 65))) (by decide +kernel))
        · exact absurd rfl hij
      ) hA
  refine ⟨fun k => (f k).1, fun k => (f k).2, fun k => if k = 13 then cI else if k = 14 then cZ else if k = 15 then cH else if k = 16 then cP else cV, fun i => if i < 5 then adK i else adV (i - 5), ⟨⟨⟨fun c q hq => hf c q hq, fun k q hk => ?_⟩, fun w hw => ?_, aH, aP, aV⟩, ⟨fun i hi => ?_, fun i j hi hj e => ?_⟩, fun i hi => ?_, ?_, ?_, hX, hbl⟩⟩
  · match k, hk with
    | 0, hk => cases hk; exact ⟨fun n z => ⟨(fun k h => by cases h), kI, I2, pI, I3⟩, I1⟩
    | 1, hk => cases hk; exact ⟨fun n z => ⟨(fun k h => by cases h), kZ, Z2, pZ, Z3⟩, Z1⟩
    | 2, hk => cases hk; exact ⟨fun n z => ⟨(fun k h => by cases h), kH, H3, pH, H4⟩, kH, pH, H3, H4, H1, H5⟩
    | 3, hk => cases hk; exact ⟨fun n z => ⟨(fun k h => by cases h), kP, P3, pP, P4⟩, kP, pP, P3, P4, P1, P5⟩
    | 4, hk => cases hk; exact ⟨fun n z => ⟨(fun k h => by cases h), kV, V3, pV, V4⟩, kV, pV, V3, V4, V1, V5⟩
    | k + 5, hk => exact absurd (List.getElem?_eq_some_iff.mp hk).1 (by simp)
  · obtain ⟨h1, hq⟩ := List.mem_filter.mp hw
    refine va_tabs (u := s) ?_ rfl (hts w h1)
    cases w <;> first | rfl | cases hq
  · have h := hK.1 i hi
    have e1 : (fun i : Nat => if i < 5 then adK i else adV (i - 5)) i = adK i := if_pos hi
    have e2 : (fun i : Nat => if i < 5 then adK i else adV (i - 5)) (i + 5) = adV i := (if_neg (by omega)).trans (by rw [Nat.add_sub_cancel])
    show va_O _ ((fun i : Nat => if i < 5 then adK i else adV (i - 5)) i) _ _ _ ∧ va_OF _ _ _ _ ((fun i : Nat => if i < 5 then adK i else adV (i - 5)) i) _ _ _ ∧ va_OF _ _ _ (.ref ((fun i : Nat => if i < 5 then adK i else adV (i - 5)) (i + 5))) ((fun i : Nat => if i < 5 then adK i else adV (i - 5)) i) _ _ _ ∧ va_T _ ((fun i : Nat => if i < 5 then adK i else adV (i - 5)) (i + 5)) _ _ _ _ _
    rw [e1, e2]
    exact h
  · have e' : (if i < 5 then adK i else adV (i - 5)) = (if j < 5 then adK j else adV (j - 5)) := e
    rw [if_pos hi, if_pos hj] at e'
    exact hK.2 i j hi hj e'
  · have h2 := hT i hi
    have e1 : (fun i : Nat => if i < 5 then adK i else adV (i - 5)) i = adK i := if_pos hi
    show vk_R _ _ _ ((fun i : Nat => if i < 5 then adK i else adV (i - 5)) i) s
    rw [e1]
    refine vk_R.of (A := #[Value.ref b]) ?_ h2
    clear h2 e1 hT hK
    rcases (by omega : i = 0 ∨ i = 1 ∨ i = 2 ∨ i = 3 ∨ i = 4) with rfl | rfl | rfl | rfl | rfl
    · exact (hts (.stringRef "SleepyHelm$Text" 33 "ship") (List.mem_of_getElem? (i := 443) (by decide +kernel)))
    · exact (hts (.stringRef "SleepyHelm$Text" 52 "rock") (List.mem_of_getElem? (i := 508) (by decide +kernel)))
    · exact (hts (.stringRef "SleepyHelm$Text" 58 "reef") (List.mem_of_getElem? (i := 519) (by decide +kernel)))
    · exact (hts (.stringRef "SleepyHelm$Text" 60 "hand") (List.mem_of_getElem? (i := 520) (by decide +kernel)))
    · exact (hts (.stringRef "SleepyHelm$Text" 65 "lean") (List.mem_of_getElem? (i := 530) (by decide +kernel)))
  · exact va_Zof (hts (.laysStatic "java/lang/String" "COMPACT_STRINGS" "Z") (List.mem_of_getElem? (i := 457) (by decide +kernel))) (hts (.initialized "java/lang/String") (List.mem_of_getElem? (i := 79) (by decide +kernel))) (va_eqt (hs (Cond.eq (.static "java/lang/String" "COMPACT_STRINGS" "Z") (.int 1)) (by decide +kernel))) hA
  · exact va_Zqof (hts (.laysStatic "jdk/internal/util/Preconditions" "SIOOBE_FORMATTER" "Ljava/util/function/BiFunction;") (List.mem_of_getElem? (i := 473) (by decide +kernel))) (hts (.initialized "jdk/internal/util/Preconditions") (List.mem_of_getElem? (i := 81) (by decide +kernel))) (hs (Cond.isRef (.static "jdk/internal/util/Preconditions" "SIOOBE_FORMATTER" "Ljava/util/function/BiFunction;")) (by decide +kernel)) hA
theorem stand_room {p : Program} {l : Launch} {e : Env} {s : State} {m : MethodId} {args : Array Value} {below : List Frame} {meth : Method} {c : Code} {T : State} {locs : List Loc} {cells slots : Nat} (X : Stand p l e room_1 s m args below meth c T locs cells slots) : Stand p l e (rmOf 1000 600000 7302250) s m args below meth c T locs cells slots := by
  have h := X.room
  have h' : s.hasRoom e.platform (rmOf 1000 600000 7302250) = true := by
    simp only [State.hasRoom, Bool.and_eq_true, decide_eq_true_eq] at h ⊢
    have r1 : room_1.locals = 84000 := rfl
    have r2 : room_1.frames = 2048 := rfl
    have q1 : (rmOf 1000 600000 7302250).locals = 64064 := rfl
    have q2 : (rmOf 1000 600000 7302250).frames = 1001 := rfl
    rw [r1, r2] at h
    rw [q1, q2]
    exact ⟨⟨⟨⟨by omega, by omega, by omega, by omega, by omega, h.1.1.1.2.2.2.2.2⟩, h.1.1.2⟩, h.1.2⟩, h.2⟩
  exact ⟨X.admits, X.cas, X.clock, X.frames, h', X.hears, X.method, X.code, X.here, X.tail, X.warmed, X.limits, X.bytes, X.same⟩
theorem frame_none {s t : State} {o : Outcome} {L : List Loc} {k n : Nat} (h : FrameEnd s o t L k n) (hf : ∀ q ∈ L, s.heap.size ≤ q.base) : Framed s o t [] k n := by
  obtain ⟨h1, h2, a1, a2, a3, a4, a5, a6⟩ := h
  refine ⟨h1, h2, a1, a2, a3, a4, a5, fun a c hc => ?_⟩
  obtain ⟨c', b1, b2, b3, b4⟩ := a6 a c hc
  exact ⟨c', b1, b2, b3, fun i _ => b4 i (fun hm => absurd (Array.getElem?_eq_some_iff.mp hc).1 (Nat.not_lt.mpr (hf _ hm)))⟩
