/-! ===== small facts for the walks ===== -/
theorem ap_null : ∀ (as : List Value) (k j : Nat) (v : Value), (as ++ List.replicate k Value.null)[j]? = some v → v ≠ .null → as[j]? = some v := by
  intro as k j v h hn
  by_cases hj : j < as.length
  · rw [List.getElem?_append_left hj] at h
    exact h
  · rw [List.getElem?_append_right (by omega)] at h
    exact absurd (List.eq_of_mem_replicate (List.mem_of_getElem? h)) hn
theorem Mt_in {G : GE} {I : MI} {d n : Nat} {args ls : List Value} {M : Mm} {Post : Option Value → Mm → Prop} (k : Nat) (hI : MO I n) (hlen : (lg_sl args).length ≤ I.2.2.1) (hls : lent args ++ List.replicate k Value.null = ls) (h : PW G I d Post 0 ls [] M 0 0) : Mt G I d args M Post :=
  Mt_of hI hlen (fun j v h1 h2 => ap_null _ k j v (by rw [hls]; exact h1) h2) h
/-- the memory's ints alone -/
abbrev MI0 : Type := Nat → Nat → Int32
abbrev MS : Type := (Nat → Nat → Int64) × (Nat → Nat → Option Nat) × (Nat → Nat × Nat) × Nat
def sL (S : MS) : Nat → Nat → Int64 := S.1
def sR (S : MS) : Nat → Nat → Option Nat := S.2.1
def sT (S : MS) : Nat → Nat × Nat := S.2.2.1
/-- an answer, the memory as it was -/
def Rt (r : Int32) (M : Mm) : Option Value → Mm → Prop := fun v M' => v = some (.int r) ∧ M' = M
def b1 (p : Prop) [Decidable p] : Int32 := if p then 1 else 0
theorem b1_t {p : Prop} [Decidable p] (h : p) : b1 p = 1 := if_pos h
theorem b1_f {p : Prop} [Decidable p] (h : ¬ p) : b1 p = 0 := if_neg h
theorem b1_n (p : Prop) [Decidable p] : narrow .boolean (.int (b1 p)) = .int (b1 p) := by
  unfold b1; split <;> rfl
theorem vin {k N : Nat} (h : k < N) (hN : N < 2 ^ 31) : vp_in (nI k) N := vp_in_nI h hN
theorem cln {k : Nat} (h : k < 2 ^ 31) : (nI k).toNatClampNeg = k := nI_clamp h
theorem rt_i {r r' : Int32} {M : Mm} (h : r' = r) : Rt r M (some (.int r')) M := ⟨by rw [h], rfl⟩
theorem rt_t {p : Prop} [Decidable p] {M : Mm} (h : p) : Rt (b1 p) M (some (.int 1)) M := ⟨by rw [b1_t h], rfl⟩
theorem rt_f {p : Prop} [Decidable p] {M : Mm} (h : ¬ p) : Rt (b1 p) M (some (.int 0)) M := ⟨by rw [b1_f h], rfl⟩
theorem b1_0 {p : Prop} [Decidable p] : b1 p = 0 ↔ ¬ p := by
  unfold b1; split <;> simp_all
theorem b1_1 {p : Prop} [Decidable p] : ¬ b1 p = 0 ↔ p := by
  rw [b1_0]; exact Decidable.not_not
theorem n32 (x y : Int32) : ¬ x < y ↔ y ≤ x := Int32.not_lt
theorem n32' (x y : Int32) : ¬ x ≤ y ↔ y < x := Int32.not_le
/-- how sleepy one of a kind is -/
def slp (k t w : Nat) (fed : Bool) : Nat :=
  if k = 0 then t
  else if k = 1 then (if w % 4 = 0 then t - 3 else t)
  else if k = 2 then (if fed then t else t / 2)
  else if k = 3 then (if fed then 2 * t else t)
  else if k = 4 then (if w % 4 = 0 then t - 3 else t) + (if w % 7 = 3 then 5 else 0)
  else 0
/-- how much more tired -/
def mor (k : Nat) : Nat := if k = 2 then 2 else if k = 5 then 0 else 1
def b2i (b : Bool) : Int32 := if b then 1 else 0
theorem b2i_0 {b : Bool} : b2i b = 0 ↔ b = false := by cases b <;> decide
theorem b2i_n {b : Bool} : ¬ b2i b = 0 ↔ b = true := by cases b <;> decide
theorem rem_c {w : Nat} (hw : w < 2 ^ 31) (k : Nat) (h0 : 0 < k) (hk : k < 2 ^ 31) {y : Int32} (hy : y = nI k) : nI w - nI w / y * y = nI (w % k) := by rw [hy]; exact pk_rem hw h0 hk
theorem nI_e0 {k : Nat} (h : k < 2 ^ 31) : nI k = 0 ↔ k = 0 := by
  rw [show (0 : Int32) = nI 0 from rfl, nI_eq h (by decide)]
theorem nI_ec {k : Nat} (c : Nat) (h : k < 2 ^ 31) (hc : c < 2 ^ 31) {y : Int32} (hy : y = nI c) : nI k = y ↔ k = c := by
  rw [hy, nI_eq h hc]
/-- cut at 0 -/
theorem max0 {t c : Nat} (ht : t < 2 ^ 30) (hc : c < 2 ^ 30) : (if (0 : Int32) < nI t - nI c then nI t - nI c else 0) = nI (t - c) := by
  by_cases h : c ≤ t
  · rw [pk_sub h]
    by_cases h2 : t - c = 0
    · rw [h2]; rfl
    · rw [if_pos]
      rw [show (0 : Int32) = nI 0 from rfl]
      exact nI_lt (by omega) (by omega)
  · rw [if_neg, show t - c = 0 by omega]
    · rfl
    · exact fun q => absurd (Int32.lt_trans q (pk_sneg hc (by omega))) (by decide)
theorem slp_0 (t w : Nat) (f : Bool) : slp 0 t w f = t := rfl
theorem slp_1 (t w : Nat) (f : Bool) : slp 1 t w f = if w % 4 = 0 then t - 3 else t := rfl
theorem slp_2 (t w : Nat) (f : Bool) : slp 2 t w f = if f then t else t / 2 := rfl
theorem slp_3 (t w : Nat) (f : Bool) : slp 3 t w f = if f then 2 * t else t := rfl
theorem slp_4 (t w : Nat) (f : Bool) : slp 4 t w f = slp 1 t w f + if w % 7 = 3 then 5 else 0 := rfl
theorem slp_5 (t w : Nat) (f : Bool) : slp 5 t w f = 0 := rfl
theorem slp_le (k t w : Nat) (f : Bool) : slp k t w f ≤ 2 * t + 5 := by
  unfold slp; repeat' split
  all_goals omega
section PWN
variable {G : GE} {I : MI} {d : Nat} {Post : Option Value → Mm → Prop} {pc : Nat} {ls st : List Value} {M : Mm} {nc ns : Nat}
theorem PW_ial {a n j : Nat} {v : Int32} (hd : decode I.2.1 pc = .ok (.iaload, 1)) (ht : mt M a = (13, n)) (hn : n < 2 ^ 31) (hj : j < n) (hv : mi M a j = v) (kk : PW G I d Post (pc + 1) ls (.int v :: st) M nc ns) : PW G I d Post pc ls (.int (nI j) :: .ref a :: st) M nc ns := by
  refine PW_iaload hd ht (vin hj hn) ?_
  rw [cln (by omega), hv]
  exact kk
theorem PW_ias {a n j : Nat} {x : Int32} (hd : decode I.2.1 pc = .ok (.iastore, 1)) (ht : mt M a = (13, n)) (hn : n < 2 ^ 31) (hj : j < n) (kk : PW G I d Post (pc + 1) ls st (wI M a j x) nc ns) : PW G I d Post pc ls (.int x :: .int (nI j) :: .ref a :: st) M nc ns := by
  refine PW_iastore hd ht (vin hj hn) ?_
  rw [cln (by omega)]
  exact kk
theorem PW_aal {a ka n j b : Nat} (hd : decode I.2.1 pc = .ok (.aaload, 1)) (ht : mt M a = (ka, n)) (h15 : ¬ ka < 15) (h18 : ka < 18) (hn : n < 2 ^ 31) (hj : j < n) (hr : mr M a j = some b) (kk : PW G I d Post (pc + 1) ls (.ref b :: st) M nc ns) : PW G I d Post pc ls (.int (nI j) :: .ref a :: st) M nc ns :=
  PW_aaload hd ht h15 h18 (vin hj hn) (by rw [cln (by omega)]; exact hr) kk
theorem PW_aas {a ka n j b ci z0 : Nat} (hd : decode I.2.1 pc = .ok (.aastore, 1)) (ht : mt M a = (ka, n)) (h15 : ¬ ka < 15) (h18 : ka < 18) (hn : n < 2 ^ 31) (hj : j < n) (htb : mt M b = (ci, z0)) (he : eOk ka ci) (kk : PW G I d Post (pc + 1) ls st (wR M a j (some b)) nc ns) : PW G I d Post pc ls (.ref b :: .int (nI j) :: .ref a :: st) M nc ns := by
  refine PW_aastore hd ht h15 h18 (vin hj hn) htb he ?_
  rw [cln (by omega)]
  exact kk
theorem PW_giv {a idx ci k : Nat} {v : Int32} (hd : decode I.2.1 pc = .ok (.getfield idx, 3)) (hf : FRr I.1.cls idx ci k 0) (ht : mt M a = (ci, 0)) (hv : mi M a k = v) (kk : PW G I d Post (pc + 3) ls (.int v :: st) M nc ns) : PW G I d Post pc ls (.ref a :: st) M nc ns := by
  refine PW_getI hd hf ht ?_
  rw [hv]
  exact kk
theorem PW_inc1 {i h : Nat} (hd : decode I.2.1 pc = .ok (.iinc i 1, 3)) (hx : ls[i]? = some (.int (nI h))) (hi : i < I.2.2.1) (hk : okS ls i = true) (k : PW G I d Post (pc + 3) (ls.set i (.int (nI (h + 1)))) st M nc ns) : PW G I d Post pc ls st M nc ns := by
  refine PW_iinc hd hx hi hk ?_
  rw [show nI h + Int32.ofInt 1 = nI (h + 1) from (nI_succ h).symm]
  exact k
end PWN
/-! reads behind writes -/
theorem rI (M : Mm) (a k : Nat) (v : Int32) (b j : Nat) : mi (wI M a k v) b j = if b = a ∧ j = k then v else mi M b j := by
  unfold mi wI va_up upd
  by_cases h : b = a
  · subst h
    by_cases h2 : j = k <;> simp [h2]
  · simp [h]
theorem rI_s (M : Mm) (a k : Nat) (v : Int32) : mi (wI M a k v) a k = v := by rw [rI, if_pos ⟨rfl, rfl⟩]
theorem rI_a (M : Mm) {a k : Nat} (v : Int32) {b : Nat} (j : Nat) (h : b ≠ a) : mi (wI M a k v) b j = mi M b j := by rw [rI, if_neg (fun q => h q.1)]
theorem rI_k (M : Mm) {a k : Nat} (v : Int32) (b : Nat) {j : Nat} (h : j ≠ k) : mi (wI M a k v) b j = mi M b j := by rw [rI, if_neg (fun q => h q.2)]
theorem rA (M : Mm) (a : Nat) (f : Nat → Int32) (b j : Nat) : mi (wA M a f) b j = if b = a then f j else mi M b j := by
  unfold mi wA va_up
  by_cases h : b = a <;> simp [h]
theorem cpy0 {f g : Nat → Int32} {n j : Nat} (h : j < n) : va_cpy f g 0 0 n j = f j := by
  simp [va_cpy, h]
/-! a whole number as an int -/
def iN (z : Int) : Int32 := Int32.ofInt z
theorem iN_nat (n : Nat) : iN (n : Int) = nI n := by
  unfold iN nI
  first | exact Int32.ofInt_eq_ofNat | (apply Int32.toBitVec_inj.mp; simp) | rfl
theorem iN_toInt {z : Int} (h1 : -2147483648 ≤ z) (h2 : z < 2147483648) : (iN z).toInt = z := by
  unfold iN
  rw [Int32.toInt_ofInt]
  have e : (Int32.size : Int) = 4294967296 := by decide
  exact Int.bmod_eq_of_le (by rw [e]; omega) (by rw [e]; omega)
theorem iN_add (x y : Int) : iN x + iN y = iN (x + y) := by simp [iN, Int32.ofInt_add]
theorem iN_sub (x y : Int) : iN x - iN y = iN (x - y) := by simp [iN, Int32.ofInt_sub]
theorem iN_mul (x y : Int) : iN x * iN y = iN (x * y) := by simp [iN, Int32.ofInt_mul]
theorem iN_inj {x y : Int} (h1 : -2147483648 ≤ x) (h2 : x < 2147483648) (h3 : -2147483648 ≤ y) (h4 : y < 2147483648) : iN x = iN y ↔ x = y := by
  constructor
  · intro h
    have := congrArg Int32.toInt h
    rwa [iN_toInt h1 h2, iN_toInt h3 h4] at this
  · intro h; rw [h]
theorem iN_lt {x y : Int} (h1 : -2147483648 ≤ x) (h2 : x < 2147483648) (h3 : -2147483648 ≤ y) (h4 : y < 2147483648) : iN x < iN y ↔ x < y := by
  rw [Int32.lt_iff_toInt_lt, iN_toInt h1 h2, iN_toInt h3 h4]
theorem iN_le {x y : Int} (h1 : -2147483648 ≤ x) (h2 : x < 2147483648) (h3 : -2147483648 ≤ y) (h4 : y < 2147483648) : iN x ≤ iN y ↔ x ≤ y := by
  rw [Int32.le_iff_toInt_le, iN_toInt h1 h2, iN_toInt h3 h4]
theorem iN_of (x : Int32) : x = iN x.toInt := by simp [iN]
/-- who, told as one more than his number, 0: nobody -/
def pI (w : Nat) : Int32 := nI w - 1
theorem pI_s (k : Nat) : pI (k + 1) = nI k := nI_pred k
theorem pI_0 : pI 0 = -1 := by decide
theorem nI_iN (k : Nat) : nI k = iN (k : Int) := (iN_nat k).symm
theorem pI_iN (w : Nat) : pI w = iN ((w : Int) - 1) := by
  unfold pI
  rw [nI_iN, show (1 : Int32) = iN 1 from rfl, iN_sub]
theorem pI_eq {w k : Nat} (hw : w < 1000) (hk : k < 1000) : nI k = pI w ↔ w = k + 1 := by
  rw [nI_iN, pI_iN, iN_inj (by omega) (by omega) (by omega) (by omega)]
  omega
theorem jle {a b : Nat} (h : nI a ≤ nI b) (ha : a < 2 ^ 31 := by omega) (hb : b < 2 ^ 31 := by omega) : a ≤ b := (nI_leI ha hb).mp h
theorem jnle {a b : Nat} (h : ¬ nI a ≤ nI b) (ha : a < 2 ^ 31 := by omega) (hb : b < 2 ^ 31 := by omega) : b < a := by
  have : ¬ a ≤ b := fun q => h ((nI_leI ha hb).mpr q)
  omega
theorem jlt {a b : Nat} (h : nI a < nI b) (ha : a < 2 ^ 31 := by omega) (hb : b < 2 ^ 31 := by omega) : a < b := (nI_ltI ha hb).mp h
theorem jnlt {a b : Nat} (h : ¬ nI a < nI b) (ha : a < 2 ^ 31 := by omega) (hb : b < 2 ^ 31 := by omega) : b ≤ a := by
  have : ¬ a < b := fun q => h ((nI_ltI ha hb).mpr q)
  omega
theorem jeq {a b : Nat} (h : nI a = nI b) (ha : a < 2 ^ 31 := by omega) (hb : b < 2 ^ 31 := by omega) : a = b := (nI_eq ha hb).mp h
theorem jne {a b : Nat} (h : ¬ nI a = nI b) : ¬ a = b := fun q => h (by rw [q])
theorem rA_s (M : Mm) (a : Nat) (f : Nat → Int32) (j : Nat) : mi (wA M a f) a j = f j := by rw [rA, if_pos rfl]
theorem rA_n (M : Mm) {a : Nat} (f : Nat → Int32) {b : Nat} (j : Nat) (h : b ≠ a) : mi (wA M a f) b j = mi M b j := by rw [rA, if_neg h]
theorem rP (i : MI0) (S : MS) (b j : Nat) : mi (i, S) b j = i b j := rfl
/-- no answer; the ints are new, and P holds of them -/
def Wr (S : MS) (P : MI0 → Prop) : Option Value → Mm → Prop := fun v M' => v = none ∧ ∃ i', M' = (i', S) ∧ P i'
theorem Wr_mk {M' : Mm} {S : MS} {P : MI0 → Prop} (h2 : M'.2 = S) (h : P (mi M')) : Wr S P none M' := ⟨rfl, M'.1, by rw [← h2], h⟩
/-- an answer; the ints are new, and P holds of them -/
def Wi (r : Int32) (S : MS) (P : MI0 → Prop) : Option Value → Mm → Prop := fun v M' => v = some (.int r) ∧ ∃ i', M' = (i', S) ∧ P i'
theorem Wi_mk {r r' : Int32} {M' : Mm} {S : MS} {P : MI0 → Prop} (h2 : M'.2 = S) (hr : r' = r) (h : P (mi M')) : Wi r S P (some (.int r')) M' := ⟨by rw [hr], M'.1, by rw [← h2], h⟩
theorem min99 {t : Nat} (ht : t < 2 ^ 30) : (if nI t < 99 then nI t else 99) = nI (min 99 t) := by
  rw [show (99 : Int32) = nI 99 from rfl]
  by_cases h : t < 99
  · rw [if_pos (nI_lt h (by decide)), Nat.min_eq_right (by omega)]
  · rw [if_neg (nI_nlt (by omega) (by omega)), Nat.min_eq_left (by omega)]
theorem c6 : (6 : Int32).toNatClampNeg = 6 := rfl
