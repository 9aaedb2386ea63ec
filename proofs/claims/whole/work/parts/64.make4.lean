/-! ===== making: what is kept ===== -/
/-- while the class is made: below X nothing has changed, no int is set -/
def Iv (X : Nat) (M Mj : Mm) : Prop := (∀ q, q < X → mt Mj q = mt M q ∧ mi Mj q = mi M q ∧ ml Mj q = ml M q ∧ mr Mj q = mr M q) ∧ mt Mj X = (11, 0) ∧ ∀ q, X ≤ q → q < mn Mj → mi Mj q = fun _ => 0
theorem Gr_0 (o : Nat) (M : Mm) : Gr o M M 0 := ⟨rfl, fun _ _ => ⟨rfl, rfl, rfl⟩, fun _ _ _ => rfl, fun q h1 h2 => absurd h2 (by omega)⟩
theorem Sb {X e o k n : Nat} {t : Nat × Nat} {M Mj Mb Mc : Mm} (hI : Iv X M Mj) (hn : mn Mj = e) (hX : X < e) (hG : Gr e (wNa Mj e t) Mb n) (h1 : X ≤ o) (h2 : o < e) (hc : Mc = wR Mb o k (some e)) : Iv X M Mc ∧ mn Mc = e + 1 + n ∧ (∀ q, q < e → mt Mc q = mt Mj q ∧ (q ≠ o → mr Mc q = mr Mj q)) ∧ mr Mc o k = some e ∧ (∀ j, j ≠ k → mr Mc o j = mr Mj o j) ∧ ∀ q, e ≤ q → mt Mc q = mt Mb q ∧ mr Mc q = mr Mb q := by
  subst hc
  obtain ⟨g1, g2, g3, g4⟩ := hG
  rw [show mn (wNa Mj e t) = e + 1 from rfl] at g1 g2 g3 g4
  obtain ⟨i1, i2, i3⟩ := hI
  refine ⟨⟨fun q hq => ?_, ?_, fun q c1 c2 => ?_⟩, g1, fun q hq => ⟨?_, fun hne => ?_⟩, rWs _ _ _ _, fun j hj => ?_, fun q hq => ⟨rfl, rWf _ _ _ (by omega)⟩⟩
  · obtain ⟨a1, a2, a3⟩ := g2 q (by omega)
    obtain ⟨b1, b2, b3, b4⟩ := i1 q hq
    refine ⟨?_, ?_, ?_, ?_⟩
    · rw [tW, a1, tNn _ _ (by omega)]; exact b1
    · rw [iW, a2, iNn _ _ (by omega)]; exact b2
    · rw [lW, a3, lNn _ _ (by omega)]; exact b3
    · rw [rWf _ _ _ (by omega), g3 q (by omega) (by omega), rNn _ _ (by omega)]; exact b4
  · rw [tW, (g2 X (by omega)).1, tNn _ _ (by omega)]; exact i2
  · rw [iW]
    by_cases c : q < e
    · rw [(g2 q (by omega)).2.1, iNn _ _ (by omega)]; exact i3 q c1 (by omega)
    · by_cases c3 : q = e
      · rw [(g2 q (by omega)).2.1, c3]; exact iNs _ _ _
      · exact g4 q (by omega) (by rw [← g1]; exact c2)
  · rw [tW, (g2 q (by omega)).1, tNn _ _ (by omega)]
  · rw [rWf _ _ _ hne, g3 q (by omega) (by omega), rNn _ _ (by omega)]
  · rw [rWk _ _ _ _ hj, g3 o (by omega) (by omega), rNn _ _ (by omega)]
def Kq (M M' : Mm) (lo hi : Nat) : Prop := ∀ q, lo ≤ q → q ≤ hi → mt M' q = mt M q ∧ mr M' q = mr M q
theorem HS.k2 {M M' : Mm} {X a : Nat} (h : HS M.2 X a) (e : Kq M M' a (a + 3)) : HS M'.2 X a := h.kq (fun q h1 h2 => (e q h1 h2).1) (e a (by omega) (by omega)).2
theorem Kq.sub {M M' : Mm} {a b c e : Nat} (h : Kq M M' a b) (h1 : a ≤ c) (h2 : e ≤ b) : Kq M M' c e := fun q x y => h q (by omega) (by omega)
theorem VS.k2 {M M' : Mm} {X v : Nat} (h : VS M.2 X v) (e : Kq M M' v (v + 40)) : VS M'.2 X v := by
  obtain ⟨h1, h2, h3, h4, h5, r1, r2, r3, r4, r5, h6, h7⟩ := h
  have f := (e v (by omega) (by omega)).2
  exact ⟨(e v (by omega) (by omega)).1.trans h1, (e _ (by omega) (by omega)).1.trans h2, (e _ (by omega) (by omega)).1.trans h3, (e _ (by omega) (by omega)).1.trans h4, (e _ (by omega) (by omega)).1.trans h5, (congrFun f 0).trans r1, (congrFun f 1).trans r2, (congrFun f 2).trans r3, (congrFun f 3).trans r4, (congrFun f 4).trans r5, h6.k2 (e.sub (by omega) (by omega)), fun u hu => (h7 u hu).k2 (e.sub (by omega) (by omega))⟩
theorem PV.k2 {M M' : Mm} {v : Nat} {σ : Nat → Nat} (h : PV M.2 v σ) (e : Kq M M' v (v + 40)) : PV M'.2 v σ := ⟨fun u hu => ⟨(h.1 u hu).1, (congrFun (e (v + 4) (by omega) (by omega)).2 u).trans (h.1 u hu).2⟩, h.2⟩
theorem CU.k2 {M M' : Mm} {X c : Nat} (h : CU M.2 X c) (e : Kq M M' c (c + 6)) : CU M'.2 X c := by
  obtain ⟨h1, h2, h3, r1, r2, r3, h4⟩ := h
  have f := (e c (by omega) (by omega)).2
  exact ⟨(e c (by omega) (by omega)).1.trans h1, (e _ (by omega) (by omega)).1.trans h2, (e _ (by omega) (by omega)).1.trans h3, (congrFun f 0).trans r1, (congrFun f 1).trans r2, (congrFun f 2).trans r3, h4.k2 (e.sub (by omega) (by omega))⟩
theorem PS.k2 {M M' : Mm} {X p : Nat} (h : PS M.2 X p) (e : Kq M M' p (p + 23)) : PS M'.2 X p := by
  obtain ⟨h1, h2, h3, h4, r1, r2, r3, h5⟩ := h
  have f := (e p (by omega) (by omega)).2
  exact ⟨(e p (by omega) (by omega)).1.trans h1, (e _ (by omega) (by omega)).1.trans h2, (e _ (by omega) (by omega)).1.trans h3, (e _ (by omega) (by omega)).1.trans h4, (congrFun f 0).trans r1, (congrFun f 1).trans r2, (congrFun f 2).trans r3, fun k hk => ⟨(congrFun (e (p + 1) (by omega) (by omega)).2 k).trans (h5 k hk).1, (h5 k hk).2.k2 (e.sub (by omega) (by omega))⟩⟩
theorem TS.k2 {M M' : Mm} {t : Nat} (h : TS M.2 t) (e : Kq M M' t (t + 1)) : TS M'.2 t := ⟨(e t (by omega) (by omega)).1.trans h.1, (e _ (by omega) (by omega)).1.trans h.2.1, (congrFun (e t (by omega) (by omega)).2 0).trans h.2.2⟩
theorem KS.k2 {M M' : Mm} {X : Nat} (h : KS M.2 X) (e : Kq M M' (X + 1) (X + 7)) : KS M'.2 X := by
  obtain ⟨h0, ⟨r0, r1, r2, r3, r4, r5⟩, h1, h2, h3, h4, h5, h6⟩ := h
  have f := (e (X + 1) (by omega) (by omega)).2
  exact ⟨(e _ (by omega) (by omega)).1.trans h0, ⟨(congrFun f 0).trans r0, (congrFun f 1).trans r1, (congrFun f 2).trans r2, (congrFun f 3).trans r3, (congrFun f 4).trans r4, (congrFun f 5).trans r5⟩, (e _ (by omega) (by omega)).1.trans h1, (e _ (by omega) (by omega)).1.trans h2, (e _ (by omega) (by omega)).1.trans h3, (e _ (by omega) (by omega)).1.trans h4, (e _ (by omega) (by omega)).1.trans h5, (e _ (by omega) (by omega)).1.trans h6⟩
/-- at the start -/
def ab0 : Ab := (vy0, (fun _ => vy0), (fun _ => false), 0, (fun _ => 0), 0, 1, 0, 0, 0)
def Bl (X : Nat) (M M' : Mm) : Prop := ∀ q, q < X → mt M' q = mt M q ∧ mi M' q = mi M q ∧ ml M' q = ml M q ∧ mr M' q = mr M q
theorem VR0 {i : MI0} {v : Nat} {g : Nat → Nat} (z : ∀ q, v ≤ q → q ≤ v + 40 → i q = fun _ => 0) : VR i v g vy0 := by
  refine ⟨?_, ?_, ?_, ⟨?_, ?_, ?_, ?_, fun j hj => absurd hj (Nat.not_lt_zero j)⟩, fun j hj => absurd hj (Nat.not_lt_zero j), fun j hj => absurd hj (Nat.not_lt_zero j), fun j hj => absurd hj (Nat.not_lt_zero j)⟩ <;> (rw [z _ (by omega) (by omega)]; rfl)
