/-! ===== making: helms ===== -/
/-- a new cell at a told address -/
def wNa (M : Mm) (a : Nat) (t : Nat × Nat) : Mm := (va_up M.1 a (fun _ => 0), va_up M.2.1 a (fun _ => 0), va_up M.2.2.1 a (fun _ => none), va_up M.2.2.2.1 a t, a + 1)
theorem wN_at {M : Mm} {a : Nat} {t : Nat × Nat} (h : mn M = a) : wN M t = wNa M a t := by subst h; rfl
theorem tW (M : Mm) (a k : Nat) (v : Option Nat) : mt (wR M a k v) = mt M := rfl
theorem tI (M : Mm) (a k : Nat) (v : Int32) : mt (wI M a k v) = mt M := rfl
theorem tL (M : Mm) (a k : Nat) (v : Int64) : mt (wL M a k v) = mt M := rfl
theorem tNs (M : Mm) (a : Nat) (t : Nat × Nat) : mt (wNa M a t) a = t := up_eq
theorem tNn (M : Mm) {a : Nat} (t : Nat × Nat) {b : Nat} (h : b ≠ a) : mt (wNa M a t) b = mt M b := up_ne h
theorem iW (M : Mm) (a k : Nat) (v : Option Nat) : mi (wR M a k v) = mi M := rfl
theorem iL (M : Mm) (a k : Nat) (v : Int64) : mi (wL M a k v) = mi M := rfl
theorem iNs (M : Mm) (a : Nat) (t : Nat × Nat) : mi (wNa M a t) a = fun _ => 0 := up_eq
theorem iNn (M : Mm) {a : Nat} (t : Nat × Nat) {b : Nat} (h : b ≠ a) : mi (wNa M a t) b = mi M b := up_ne h
theorem lW (M : Mm) (a k : Nat) (v : Option Nat) : ml (wR M a k v) = ml M := rfl
theorem lI (M : Mm) (a k : Nat) (v : Int32) : ml (wI M a k v) = ml M := rfl
theorem lNs (M : Mm) (a : Nat) (t : Nat × Nat) : ml (wNa M a t) a = fun _ => 0 := up_eq
theorem lNn (M : Mm) {a : Nat} (t : Nat × Nat) {b : Nat} (h : b ≠ a) : ml (wNa M a t) b = ml M b := up_ne h
theorem rI_ (M : Mm) (a k : Nat) (v : Int32) : mr (wI M a k v) = mr M := rfl
theorem rL_ (M : Mm) (a k : Nat) (v : Int64) : mr (wL M a k v) = mr M := rfl
theorem rWs (M : Mm) (a k : Nat) (v : Option Nat) : mr (wR M a k v) a k = v := (rR M a k v a k).trans (if_pos ⟨rfl, rfl⟩)
theorem rWk (M : Mm) (a : Nat) {k : Nat} (v : Option Nat) (b : Nat) {j : Nat} (h : j ≠ k) : mr (wR M a k v) b j = mr M b j := (rR M a k v b j).trans (if_neg (fun q => h q.2))
theorem rWa (M : Mm) {a : Nat} (k : Nat) (v : Option Nat) {b : Nat} (j : Nat) (h : b ≠ a) : mr (wR M a k v) b j = mr M b j := (rR M a k v b j).trans (if_neg (fun q => h q.1))
theorem rWf (M : Mm) {a : Nat} (k : Nat) (v : Option Nat) {b : Nat} (h : b ≠ a) : mr (wR M a k v) b = mr M b := funext (fun j => rWa M k v j h)
theorem rNs (M : Mm) (a : Nat) (t : Nat × Nat) : mr (wNa M a t) a = fun _ => none := up_eq
theorem rNn (M : Mm) {a : Nat} (t : Nat × Nat) {b : Nat} (h : b ≠ a) : mr (wNa M a t) b = mr M b := up_ne h
section PWN
variable {G : GE} {I : MI} {d : Nat} {Post : Option Value → Mm → Prop} {pc : Nat} {ls st : List Value} {M : Mm} {nc ns : Nat}
theorem PW_newA {idx ci N a : Nat} (hd : decode I.2.1 pc = .ok (.new idx, 3)) (hn : NR I.1.cls idx ci N) (ha : mn M = a) (hc : nc + 1 ≤ I.2.2.2.2.1) (hs : ns + N ≤ I.2.2.2.2.2) (kk : PW G I d Post (pc + 3) ls (.ref a :: st) (wNa M a (ci, 0)) (nc + 1) (ns + N)) : PW G I d Post pc ls st M nc ns := by
  refine PW_new hd hn hc hs ?_
  rw [wN_at ha, ha]
  exact kk
theorem PW_newIA {n : Int32} {N a : Nat} (hd : decode I.2.1 pc = .ok (.newarray .int, 2)) (hw : Cond.arrayClass .int ∈ wsG) (hn : ¬ n < 0) (hN : n.toNatClampNeg = N) (h4 : N ≤ 1000) (ha : mn M = a) (hc : nc + 1 ≤ I.2.2.2.2.1) (hs : ns + N ≤ I.2.2.2.2.2) (kk : PW G I d Post (pc + 2) ls (.ref a :: st) (wNa M a (13, N)) (nc + 1) (ns + N)) : PW G I d Post pc ls (.int n :: st) M nc ns := by
  refine PW_newI hd hw hn hN h4 hc hs ?_
  rw [wN_at ha, ha]
  exact kk
theorem PW_newZA {n : Int32} {N a : Nat} (hd : decode I.2.1 pc = .ok (.newarray .boolean, 2)) (hw : Cond.arrayClass .boolean ∈ wsG) (hn : ¬ n < 0) (hN : n.toNatClampNeg = N) (h4 : N ≤ 1000) (ha : mn M = a) (hc : nc + 1 ≤ I.2.2.2.2.1) (hs : ns + N ≤ I.2.2.2.2.2) (kk : PW G I d Post (pc + 2) ls (.ref a :: st) (wNa M a (14, N)) (nc + 1) (ns + N)) : PW G I d Post pc ls (.int n :: st) M nc ns := by
  refine PW_newZ hd hw hn hN h4 hc hs ?_
  rw [wN_at ha, ha]
  exact kk
theorem PW_anewA {idx k a : Nat} {n : Int32} {N : Nat} (hd : decode I.2.1 pc = .ok (.anewarray idx, 3)) (h15 : ¬ k < 15) (h18 : k < 18) (hw : Cond.classLink I.1.cls idx (eCl k) ∈ wsG) (hn : ¬ n < 0) (hN : n.toNatClampNeg = N) (h4 : N ≤ 1000) (ha : mn M = a) (hc : nc + 1 ≤ I.2.2.2.2.1) (hs : ns + N ≤ I.2.2.2.2.2) (kk : PW G I d Post (pc + 3) ls (.ref a :: st) (wNa M a (k, N)) (nc + 1) (ns + N)) : PW G I d Post pc ls (.int n :: st) M nc ns := by
  refine PW_anew hd h15 h18 hw hn hN h4 hc hs ?_
  rw [wN_at ha, ha]
  exact kk
end PWN
/-- n cells more; of the old only o's references have changed; no int of the new is set -/
def Gr (o : Nat) (M M' : Mm) (n : Nat) : Prop := mn M' = mn M + n ∧ (∀ q, q < mn M → mt M' q = mt M q ∧ mi M' q = mi M q ∧ ml M' q = ml M q) ∧ (∀ q, q < mn M → q ≠ o → mr M' q = mr M q) ∧ ∀ q, mn M ≤ q → q < mn M + n → mi M' q = fun _ => 0
def Nw (P : Mm → Prop) : Option Value → Mm → Prop := fun v M' => v = none ∧ P M'
theorem HS.kq {M M' : Mm} {X a : Nat} (h : HS M.2 X a) (e : ∀ q, a ≤ q → q ≤ a + 3 → mt M' q = mt M q) (e2 : mr M' a = mr M a) : HS M'.2 X a := by
  obtain ⟨h1, h2, h3, h4, h5, h6, h7, h8⟩ := h
  exact ⟨(e a (by omega) (by omega)).trans h1, (e (a + 1) (by omega) (by omega)).trans h2, (e (a + 2) (by omega) (by omega)).trans h3, (e (a + 3) (by omega) (by omega)).trans h4, (congrFun e2 0).trans h5, (congrFun e2 1).trans h6, (congrFun e2 2).trans h7, (congrFun e2 3).trans h8⟩
/-- helms made into a row, one after another -/
def LG (M0 : Mm) (arr base X j : Nat) (M1 : Mm) : Prop := mn M1 = base + 4 * j ∧ (∀ q, q < base → mt M1 q = mt M0 q ∧ mi M1 q = mi M0 q ∧ ml M1 q = ml M0 q ∧ (q ≠ arr → mr M1 q = mr M0 q)) ∧ (∀ q, base ≤ q → q < base + 4 * j → mi M1 q = fun _ => 0) ∧ ∀ u, u < j → mr M1 arr u = some (base + 4 * u) ∧ HS M1.2 X (base + 4 * u)
theorem LG_0 {M0 : Mm} {arr base X : Nat} (h : mn M0 = base) : LG M0 arr base X 0 M0 := ⟨h, fun _ _ => ⟨rfl, rfl, rfl, fun _ => rfl⟩, fun q h1 h2 => absurd h2 (by omega), fun u hu => absurd hu (Nat.not_lt_zero u)⟩
theorem LG_s {M0 M1 M3 : Mm} {arr base X j a : Nat} (hL : LG M0 arr base X j M1) (ha : a = base + 4 * j) (hb : arr < base) (hG : Gr a (wNa M1 a (4, 0)) M3 3) (hH : HS M3.2 X a) : LG M0 arr base X (j + 1) (wR M3 arr j (some a)) := by
  subst ha
  obtain ⟨l1, l2, l3, l4⟩ := hL
  obtain ⟨g1, g2, g3, g4⟩ := hG
  rw [show mn (wNa M1 (base + 4 * j) (4, 0)) = base + 4 * j + 1 from rfl] at g1 g2 g3 g4
  refine ⟨by show mn M3 = _; rw [g1]; omega, fun q hq => ?_, fun q h1 h2 => ?_, fun u hu => ?_⟩
  · obtain ⟨a1, a2, a3⟩ := g2 q (by omega)
    obtain ⟨b1, b2, b3, b4⟩ := l2 q hq
    refine ⟨?_, ?_, ?_, fun hne => ?_⟩
    · rw [tW, a1, tNn _ _ (by omega)]; exact b1
    · rw [iW, a2, iNn _ _ (by omega)]; exact b2
    · rw [lW, a3, lNn _ _ (by omega)]; exact b3
    · rw [rWf _ _ _ hne, g3 q (by omega) (by omega), rNn _ _ (by omega)]; exact b4 hne
  · rw [iW]
    by_cases c1 : q < base + 4 * j
    · rw [(g2 q (by omega)).2.1, iNn _ _ (by omega)]; exact l3 q h1 c1
    · by_cases c2 : q = base + 4 * j
      · rw [(g2 q (by omega)).2.1, c2]; exact iNs _ _ _
      · exact g4 q (by omega) (by omega)
  · by_cases e : u = j
    · subst e
      refine ⟨rWs _ _ _ _, hH.kq (fun q _ _ => rfl) (rWf _ _ _ (by omega))⟩
    · obtain ⟨c1, c2⟩ := l4 u (by omega)
      refine ⟨?_, c2.kq (fun q h1 h2 => ?_) ?_⟩
      · rw [rWk _ _ _ _ e, g3 arr (by omega) (by omega), rNn _ _ (by omega)]; exact c1
      · rw [tW, (g2 q (by omega)).1, tNn _ _ (by omega)]
      · rw [rWf _ _ _ (by omega), g3 _ (by omega) (by omega), rNn _ _ (by omega)]
set_option maxRecDepth 100000 in
set_option maxHeartbeats 4000000 in
theorem spX7_init {G : GE} {d : Nat} {M : Mm} {a : Nat} : Mt G iX7_init d [.ref a] M (Nw (fun M' => M' = M)) := by
  refine Mt_in 0 (ls := [.ref a]) moX7_init (Nat.le_of_ble_eq_true rfl) rfl ?_
  refine PW_aload_n (i := 0) dX7_init_0 rfl rfl ?_
  refine PW_objInit dX7_init_1 oi7_1 oiI oiC (Nat.le_of_ble_eq_true rfl) ?_
  refine PW_return rfl dX7_init_4 (Nat.le_of_ble_eq_true rfl) (Nat.le_of_ble_eq_true rfl) ?_
  exact ⟨rfl, rfl⟩
set_option maxRecDepth 100000 in
set_option maxHeartbeats 4000000 in
theorem spX1_init {G : GE} {d : Nat} {M : Mm} {a : Nat} (hd : 1 ≤ d) : Mt G iX1_init d [.ref a] M (Nw (fun M' => M' = M)) := by
  refine Mt_in 0 (ls := [.ref a]) moX1_init (Nat.le_of_ble_eq_true rfl) rfl ?_
  refine PW_aload_n (i := 0) dX1_init_0 rfl rfl ?_
  refine PW_callI dX1_init_1 moX7_init ct1_1 (by omega) rfl rfl (Nat.le_of_ble_eq_true rfl) (Nat.le_of_ble_eq_true rfl) (Nat.le_of_ble_eq_true rfl) (spX7_init (d := d - 1)) (fun v0 M1 hq => ?_)
  obtain ⟨rfl, rfl⟩ := hq
  refine PW_return rfl dX1_init_4 (Nat.le_of_ble_eq_true rfl) (Nat.le_of_ble_eq_true rfl) ?_
  exact ⟨rfl, rfl⟩
set_option maxRecDepth 100000 in
set_option maxHeartbeats 4000000 in
theorem spX8_init {G : GE} {d : Nat} {M : Mm} {a : Nat} (hd : 1 ≤ d) : Mt G iX8_init d [.ref a] M (Nw (fun M' => M' = M)) := by
  refine Mt_in 0 (ls := [.ref a]) moX8_init (Nat.le_of_ble_eq_true rfl) rfl ?_
  refine PW_aload_n (i := 0) dX8_init_0 rfl rfl ?_
  refine PW_callI dX8_init_1 moX7_init ct8_1 (by omega) rfl rfl (Nat.le_of_ble_eq_true rfl) (Nat.le_of_ble_eq_true rfl) (Nat.le_of_ble_eq_true rfl) (spX7_init (d := d - 1)) (fun v0 M1 hq => ?_)
  obtain ⟨rfl, rfl⟩ := hq
  refine PW_return rfl dX8_init_4 (Nat.le_of_ble_eq_true rfl) (Nat.le_of_ble_eq_true rfl) ?_
  exact ⟨rfl, rfl⟩
set_option maxRecDepth 100000 in
set_option maxHeartbeats 4000000 in
theorem spX2_init {G : GE} {d : Nat} {M : Mm} {a : Nat} (hd : 1 ≤ d) : Mt G iX2_init d [.ref a] M (Nw (fun M' => M' = M)) := by
  refine Mt_in 0 (ls := [.ref a]) moX2_init (Nat.le_of_ble_eq_true rfl) rfl ?_
  refine PW_aload_n (i := 0) dX2_init_0 rfl rfl ?_
  refine PW_callI dX2_init_1 moX7_init ct2_1 (by omega) rfl rfl (Nat.le_of_ble_eq_true rfl) (Nat.le_of_ble_eq_true rfl) (Nat.le_of_ble_eq_true rfl) (spX7_init (d := d - 1)) (fun v0 M1 hq => ?_)
  obtain ⟨rfl, rfl⟩ := hq
  refine PW_return rfl dX2_init_4 (Nat.le_of_ble_eq_true rfl) (Nat.le_of_ble_eq_true rfl) ?_
  exact ⟨rfl, rfl⟩
set_option maxRecDepth 100000 in
set_option maxHeartbeats 4000000 in
theorem spX5_init {G : GE} {d : Nat} {M : Mm} {a : Nat} (hd : 2 ≤ d) : Mt G iX5_init d [.ref a] M (Nw (fun M' => M' = M)) := by
  refine Mt_in 0 (ls := [.ref a]) moX5_init (Nat.le_of_ble_eq_true rfl) rfl ?_
  refine PW_aload_n (i := 0) dX5_init_0 rfl rfl ?_
  refine PW_callI dX5_init_1 moX1_init ct5_1 (by omega) rfl rfl (Nat.le_of_ble_eq_true rfl) (Nat.le_of_ble_eq_true rfl) (Nat.le_of_ble_eq_true rfl) (spX1_init (d := d - 1) (by omega)) (fun v0 M1 hq => ?_)
  obtain ⟨rfl, rfl⟩ := hq
  refine PW_return rfl dX5_init_4 (Nat.le_of_ble_eq_true rfl) (Nat.le_of_ble_eq_true rfl) ?_
  exact ⟨rfl, rfl⟩
set_option maxRecDepth 100000 in
set_option maxHeartbeats 4000000 in
theorem spX0_init {G : GE} {d : Nat} {M : Mm} {a : Nat} (hd : 2 ≤ d) : Mt G iX0_init d [.ref a] M (Nw (fun M' => M' = M)) := by
  refine Mt_in 0 (ls := [.ref a]) moX0_init (Nat.le_of_ble_eq_true rfl) rfl ?_
  refine PW_aload_n (i := 0) dX0_init_0 rfl rfl ?_
  refine PW_callI dX0_init_1 moX8_init ct0_1 (by omega) rfl rfl (Nat.le_of_ble_eq_true rfl) (Nat.le_of_ble_eq_true rfl) (Nat.le_of_ble_eq_true rfl) (spX8_init (d := d - 1) (by omega)) (fun v0 M1 hq => ?_)
  obtain ⟨rfl, rfl⟩ := hq
  refine PW_return rfl dX0_init_4 (Nat.le_of_ble_eq_true rfl) (Nat.le_of_ble_eq_true rfl) ?_
  exact ⟨rfl, rfl⟩
theorem sT_mt (M : Mm) : sT M.2 = mt M := rfl
theorem sR_mr (M : Mm) : sR M.2 = mr M := rfl
set_option maxRecDepth 100000 in
set_option maxHeartbeats 4000000 in
theorem spX4_init {G : GE} {d : Nat} {M : Mm} {X a : Nat} (hn : mn M = a + 1) (ht : mt M a = (4, 0)) : Mt G iX4_init d [.ref a, .ref (X + 1)] M (Nw (fun M' => Gr a M M' 3 ∧ HS M'.2 X a)) := by
  refine Mt_in 0 (ls := [.ref a, .ref (X + 1)]) moX4_init (Nat.le_of_ble_eq_true rfl) rfl ?_
  refine PW_aload_n (i := 0) dX4_init_0 rfl rfl ?_
  refine PW_objInit dX4_init_1 oi4_3 oiI oiC (Nat.le_of_ble_eq_true rfl) ?_
  refine PW_aload_n (i := 0) dX4_init_4 rfl rfl ?_
  refine PW_bipush (v := 6) dX4_init_5 (by decide) ?_
  refine PW_newIA (N := 6) (a := a + 1) dX4_init_7 arI (by decide) rfl (by decide) (by first | rfl | exact hn) (Nat.le_of_ble_eq_true rfl) (Nat.le_of_ble_eq_true rfl) ?_
  refine PW_putR dX4_init_9 fr4_9 (fun _ => rfl) (by simp (disch := omega) only [tW, tI, tL, tNs, tNn, iW, iL, iNs, iNn, lW, lI, lNs, lNn, rWs, rWk, rWa, rWf, rNs, rNn, rI_, rL_, ne_eq, not_false_eq_true, ht]) ?_
  refine PW_aload_n (i := 0) dX4_init_12 rfl rfl ?_
  refine PW_bipush (v := 6) dX4_init_13 (by decide) ?_
  refine PW_newIA (N := 6) (a := a + 2) dX4_init_15 arI (by decide) rfl (by decide) (by first | rfl | exact hn) (Nat.le_of_ble_eq_true rfl) (Nat.le_of_ble_eq_true rfl) ?_
  refine PW_putR dX4_init_17 fr4_15 (fun _ => rfl) (by simp (disch := omega) only [tW, tI, tL, tNs, tNn, iW, iL, iNs, iNn, lW, lI, lNs, lNn, rWs, rWk, rWa, rWf, rNs, rNn, rI_, rL_, ne_eq, not_false_eq_true, ht]) ?_
  refine PW_aload_n (i := 0) dX4_init_20 rfl rfl ?_
  refine PW_bipush (v := 6) dX4_init_21 (by decide) ?_
  refine PW_newIA (N := 6) (a := a + 3) dX4_init_23 arI (by decide) rfl (by decide) (by first | rfl | exact hn) (Nat.le_of_ble_eq_true rfl) (Nat.le_of_ble_eq_true rfl) ?_
  refine PW_putR dX4_init_25 fr4_18 (fun _ => rfl) (by simp (disch := omega) only [tW, tI, tL, tNs, tNn, iW, iL, iNs, iNn, lW, lI, lNs, lNn, rWs, rWk, rWa, rWf, rNs, rNn, rI_, rL_, ne_eq, not_false_eq_true, ht]) ?_
  refine PW_aload_n (i := 0) dX4_init_28 rfl rfl ?_
  refine PW_aload_n (i := 1) dX4_init_29 rfl rfl ?_
  refine PW_putR dX4_init_30 fr4_21 (fun _ => rfl) (by simp (disch := omega) only [tW, tI, tL, tNs, tNn, iW, iL, iNs, iNn, lW, lI, lNs, lNn, rWs, rWk, rWa, rWf, rNs, rNn, rI_, rL_, ne_eq, not_false_eq_true, ht]) ?_
  refine PW_return rfl dX4_init_33 (Nat.le_of_ble_eq_true rfl) (Nat.le_of_ble_eq_true rfl) ?_
  refine ⟨rfl, ⟨by rw [hn]; rfl, fun q hq => ?_, fun q hq hne => ?_, fun q h1 h2 => ?_⟩, ?_⟩
  · refine ⟨?_, ?_, ?_⟩ <;> simp (disch := omega) only [tW, tI, tL, tNs, tNn, iW, iL, iNs, iNn, lW, lI, lNs, lNn, rWs, rWk, rWa, rWf, rNs, rNn, rI_, rL_, ne_eq, not_false_eq_true]
  · simp (disch := omega) only [tW, tI, tL, tNs, tNn, iW, iL, iNs, iNn, lW, lI, lNs, lNn, rWs, rWk, rWa, rWf, rNs, rNn, rI_, rL_, ne_eq, not_false_eq_true]
  · rcases (by omega : q = a + 1 ∨ q = a + 2 ∨ q = a + 3) with rfl | rfl | rfl <;> simp (disch := omega) only [tW, tI, tL, tNs, tNn, iW, iL, iNs, iNn, lW, lI, lNs, lNn, rWs, rWk, rWa, rWf, rNs, rNn, rI_, rL_, ne_eq, not_false_eq_true]
  · refine ⟨?_, ?_, ?_, ?_, ?_, ?_, ?_, ?_⟩ <;> simp (disch := omega) only [sT_mt, sR_mr, tW, tI, tL, tNs, tNn, iW, iL, iNs, iNn, lW, lI, lNs, lNn, rWs, rWk, rWa, rWf, rNs, rNn, rI_, rL_, ne_eq, not_false_eq_true, ht]
