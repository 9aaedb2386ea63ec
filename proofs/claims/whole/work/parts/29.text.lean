/-! ===== Text: advance ===== -/
/-! ===== the text, by its tokens ===== -/
def rnF (p : Nat → Bool) (B : Nat → Nat) : Nat → Nat → Nat
  | 0, k => k
  | f + 1, k => if p (B k) then rnF p B f (k + 1) else k
/-- the first place from k on, below L, where p doesn't hold; L if there is none -/
def rn (p : Nat → Bool) (L : Nat) (B : Nat → Nat) (k : Nat) : Nat := rnF p B (L - k) k
theorem rn_y {p : Nat → Bool} {L : Nat} {B : Nat → Nat} {k : Nat} (hk : k < L) (hp : p (B k) = true) : rn p L B k = rn p L B (k + 1) := by
  unfold rn
  rw [show L - k = (L - (k + 1)) + 1 by omega, rnF, if_pos hp]
theorem rn_n {p : Nat → Bool} {L : Nat} {B : Nat → Nat} {k : Nat} (h : L ≤ k ∨ ¬ p (B k) = true) : rn p L B k = k := by
  unfold rn
  by_cases hk : L ≤ k
  · rw [show L - k = 0 by omega]; rfl
  · rw [show L - k = (L - (k + 1)) + 1 by omega, rnF, if_neg (by rcases h with h | h; exact absurd h hk; exact h)]
theorem rnF_b {p : Nat → Bool} {B : Nat → Nat} : ∀ (f k : Nat), k ≤ rnF p B f k ∧ rnF p B f k ≤ k + f ∧ (∀ j, k ≤ j → j < rnF p B f k → p (B j) = true) ∧ (rnF p B f k < k + f → ¬ p (B (rnF p B f k)) = true)
  | 0, k => ⟨Nat.le_refl _, Nat.le_refl _, fun j h1 h2 => absurd (Nat.lt_of_le_of_lt h1 h2) (Nat.lt_irrefl _), fun h => absurd h (Nat.lt_irrefl _)⟩
  | f + 1, k => by
    unfold rnF
    by_cases h : p (B k) = true
    · rw [if_pos h]
      obtain ⟨q1, q2, q3, q4⟩ := rnF_b (p := p) (B := B) f (k + 1)
      refine ⟨by omega, by omega, fun j h1 h2 => ?_, fun h' => q4 (by omega)⟩
      by_cases e : j = k
      · rw [e]; exact h
      · exact q3 j (by omega) h2
    · rw [if_neg h]
      exact ⟨Nat.le_refl _, by omega, fun j h1 h2 => absurd (Nat.lt_of_le_of_lt h1 h2) (Nat.lt_irrefl _), fun _ => h⟩
theorem rn_ge (p : Nat → Bool) (L : Nat) (B : Nat → Nat) (k : Nat) : k ≤ rn p L B k := (rnF_b _ _).1
theorem rn_le {p : Nat → Bool} {L : Nat} {B : Nat → Nat} {k : Nat} (hk : k ≤ L) : rn p L B k ≤ L := by
  have := (rnF_b (p := p) (B := B) (L - k) k).2.1
  unfold rn
  omega
theorem rn_all {p : Nat → Bool} {L : Nat} {B : Nat → Nat} {k j : Nat} (h1 : k ≤ j) (h2 : j < rn p L B k) : p (B j) = true := (rnF_b (p := p) (B := B) (L - k) k).2.2.1 j h1 h2
theorem rn_end {p : Nat → Bool} {L : Nat} {B : Nat → Nat} {k : Nat} (hk : k ≤ L) (h : rn p L B k < L) : ¬ p (B (rn p L B k)) = true := (rnF_b (p := p) (B := B) (L - k) k).2.2.2 (by unfold rn at h; omega)
def pS (c : Nat) : Bool := decide (c = 32)
def pL (c : Nat) : Bool := decide (97 ≤ c) && decide (c ≤ 122)
def pF (c : Nat) : Bool := decide (48 ≤ c) && decide (c ≤ 57)
/-- the token that begins at s: 0 end, 1 word, 2 number, 3 stop, 4 other -/
def tT (L : Nat) (B : Nat → Nat) (s : Nat) : Nat := if L ≤ s then 0 else if pL (B s) then 1 else if pF (B s) then (if rn pF L B s - s ≤ 2 then 2 else 4) else if B s = 59 then 3 else 4
def tE (L : Nat) (B : Nat → Nat) (s : Nat) : Nat := if L ≤ s then s else if pL (B s) then rn pL L B s else if pF (B s) then rn pF L B s else s + 1
def numI (B : Nat → Nat) (s : Nat) : Nat → Int32
  | 0 => 0
  | n + 1 => numI B s n * 10 + (nI (B (s + n)) - 48)
def tN (L : Nat) (B : Nat → Nat) (s : Nat) : Int32 := if L ≤ s then 0 else if pL (B s) then 0 else if pF (B s) then numI B s (rn pF L B s - s) else 0
theorem tE_le {L : Nat} {B : Nat → Nat} {s : Nat} (hs : s ≤ L) : tE L B s ≤ L ∧ s ≤ tE L B s := by
  unfold tE
  split
  · omega
  · split
    · exact ⟨rn_le hs, rn_ge _ _ _ _⟩
    · split
      · exact ⟨rn_le hs, rn_ge _ _ _ _⟩
      · omega
/-- the next token's beginning -/
def nx (L : Nat) (B : Nat → Nat) (s : Nat) : Nat := rn pS L B (tE L B s)
theorem nx_le {L : Nat} {B : Nat → Nat} {s : Nat} (hs : s ≤ L) : nx L B s ≤ L ∧ s ≤ nx L B s := ⟨rn_le (tE_le hs).1, Nat.le_trans (tE_le hs).2 (rn_ge _ _ _ _)⟩
def TXT (i : MI0) (t L : Nat) (B : Nat → Nat) : Prop := i t 1 = nI L ∧ ∀ j, j < L → i (t + 1) j = nI (B j)
def TKs (i : MI0) (t L : Nat) (B : Nat → Nat) (s : Nat) : Prop := TXT i t L B ∧ i t 3 = nI (tT L B s) ∧ i t 4 = nI s ∧ i t 5 = nI (tE L B s) ∧ i t 6 = tN L B s
def fI : Option Nat → Int32
  | none => -1
  | some p => nI p
theorem fI_none {f : Option Nat} (hf : ∀ p, f = some p → p ≤ 1000) : fI f = -1 ↔ f = none := by
  match f, hf with
  | none, _ => exact ⟨fun _ => rfl, fun _ => rfl⟩
  | some p, hf =>
    have := hf p rfl
    refine ⟨fun h => ?_, fun h => by cases h⟩
    rw [show fI (some p) = nI p from rfl, nI_iN, show (-1 : Int32) = iN (-1) from rfl, iN_inj (by omega) (by omega) (by omega) (by omega)] at h
    omega
def fl (f : Option Nat) (s : Nat) : Option Nat := match f with
  | none => some s
  | some p => some p
set_option maxRecDepth 100000 in
set_option maxHeartbeats 4000000 in
theorem spX9_isLetter {G : GE} {d : Nat} {M : Mm} {c : Nat} (hc : c < 128) : Mt G iX9_isLetter d [.int (nI c)] M (Rt (b2i (pL c)) M) := by
  refine Mt_in 0 (ls := [.int (nI c)]) moX9_isLetter (Nat.le_of_ble_eq_true rfl) rfl ?_
  refine PW_iload_n (i := 0) dX9_isLetter_0 rfl rfl ?_
  refine PW_bipush (v := 97) dX9_isLetter_1 (by decide) ?_
  refine PW_icmp_lt 16 dX9_isLetter_3 (by decide) (fun h3 => ?_) (fun h3 => ?_)
  · have h3 := jlt (b := 97) h3
    refine PW_iconst (v := 0) dX9_isLetter_16 (by decide) ?_
    refine PW_ireturn rfl (rfl) dX9_isLetter_17 (Nat.le_of_ble_eq_true rfl) (Nat.le_of_ble_eq_true rfl) ?_
    refine rt_i ?_
    unfold pL
    first | (rw [decide_eq_false (p := 97 ≤ c) (by omega), Bool.false_and]; rfl) | (rw [decide_eq_false (p := c ≤ 122) (by omega), Bool.and_false]; rfl)
  · have h3 := jnlt (b := 97) h3
    refine PW_iload_n (i := 0) dX9_isLetter_6 rfl rfl ?_
    refine PW_bipush (v := 122) dX9_isLetter_7 (by decide) ?_
    refine PW_icmp_gt 16 dX9_isLetter_9 (by decide) (fun h9 => ?_) (fun h9 => ?_)
    · have h9 := jlt (a := 122) h9
      refine PW_iconst (v := 0) dX9_isLetter_16 (by decide) ?_
      refine PW_ireturn rfl (rfl) dX9_isLetter_17 (Nat.le_of_ble_eq_true rfl) (Nat.le_of_ble_eq_true rfl) ?_
      refine rt_i ?_
      unfold pL
      first | (rw [decide_eq_false (p := 97 ≤ c) (by omega), Bool.false_and]; rfl) | (rw [decide_eq_false (p := c ≤ 122) (by omega), Bool.and_false]; rfl)
    · have h9 := jnlt (a := 122) h9
      refine PW_iconst (v := 1) dX9_isLetter_12 (by decide) ?_
      refine PW_goto 17 dX9_isLetter_13 (by decide) ?_
      refine PW_ireturn rfl (rfl) dX9_isLetter_17 (Nat.le_of_ble_eq_true rfl) (Nat.le_of_ble_eq_true rfl) ?_
      refine rt_i ?_
      unfold pL
      rw [decide_eq_true (by omega), decide_eq_true (by omega)]; rfl
set_option maxRecDepth 100000 in
set_option maxHeartbeats 4000000 in
theorem spX9_isFigure {G : GE} {d : Nat} {M : Mm} {c : Nat} (hc : c < 128) : Mt G iX9_isFigure d [.int (nI c)] M (Rt (b2i (pF c)) M) := by
  refine Mt_in 0 (ls := [.int (nI c)]) moX9_isFigure (Nat.le_of_ble_eq_true rfl) rfl ?_
  refine PW_iload_n (i := 0) dX9_isFigure_0 rfl rfl ?_
  refine PW_bipush (v := 48) dX9_isFigure_1 (by decide) ?_
  refine PW_icmp_lt 16 dX9_isFigure_3 (by decide) (fun h3 => ?_) (fun h3 => ?_)
  · have h3 := jlt (b := 48) h3
    refine PW_iconst (v := 0) dX9_isFigure_16 (by decide) ?_
    refine PW_ireturn rfl (rfl) dX9_isFigure_17 (Nat.le_of_ble_eq_true rfl) (Nat.le_of_ble_eq_true rfl) ?_
    refine rt_i ?_
    unfold pF
    first | (rw [decide_eq_false (p := 48 ≤ c) (by omega), Bool.false_and]; rfl) | (rw [decide_eq_false (p := c ≤ 57) (by omega), Bool.and_false]; rfl)
  · have h3 := jnlt (b := 48) h3
    refine PW_iload_n (i := 0) dX9_isFigure_6 rfl rfl ?_
    refine PW_bipush (v := 57) dX9_isFigure_7 (by decide) ?_
    refine PW_icmp_gt 16 dX9_isFigure_9 (by decide) (fun h9 => ?_) (fun h9 => ?_)
    · have h9 := jlt (a := 57) h9
      refine PW_iconst (v := 0) dX9_isFigure_16 (by decide) ?_
      refine PW_ireturn rfl (rfl) dX9_isFigure_17 (Nat.le_of_ble_eq_true rfl) (Nat.le_of_ble_eq_true rfl) ?_
      refine rt_i ?_
      unfold pF
      first | (rw [decide_eq_false (p := 48 ≤ c) (by omega), Bool.false_and]; rfl) | (rw [decide_eq_false (p := c ≤ 57) (by omega), Bool.and_false]; rfl)
    · have h9 := jnlt (a := 57) h9
      refine PW_iconst (v := 1) dX9_isFigure_12 (by decide) ?_
      refine PW_goto 17 dX9_isFigure_13 (by decide) ?_
      refine PW_ireturn rfl (rfl) dX9_isFigure_17 (Nat.le_of_ble_eq_true rfl) (Nat.le_of_ble_eq_true rfl) ?_
      refine rt_i ?_
      unfold pF
      rw [decide_eq_true (by omega), decide_eq_true (by omega)]; rfl
set_option maxRecDepth 100000 in
set_option maxHeartbeats 4000000 in
theorem lpX9_overWord {G : GE} {d : Nat} {i : MI0} {S : MS} {t : Nat} {L : Nat} {B : Nat → Nat} (Ft : TS S t) (hT : TXT i t L B) (hL : L ≤ 150) (hB : ∀ j, j < L → B j < 128) (hd : 1 ≤ d) {k : Nat} : ∀ (n0 j : Nat), j ≤ L → L < j + n0 → ∀ (i' : MI0), i' t 5 = nI j → i' t 3 = 1 → (∀ a, a ≠ 3 → a ≠ 5 → i' t a = i t a) → (∀ q, q ≠ t → i' q = i q) → rn pL L B k = rn pL L B j → PW G iX9_advanceOverWord d (Wr S (fun i' => i' t 3 = 1 ∧ i' t 5 = nI (rn pL L B k) ∧ (∀ a, a ≠ 3 → a ≠ 5 → i' t a = i t a) ∧ ∀ q, q ≠ t → i' q = i q)) 5 [.ref t] [] (i', S) 0 0 := by
  intro n0
  induction n0 with
  | zero => intro j h1 h2; exact absurd h2 (by omega)
  | succ n0 ih =>
    intro j hj1 hj2 i' v5 v0 v1 v2 v3
    refine PW_aload_n (i := 0) dX9_advanceOverWord_5 rfl rfl ?_
    refine PW_giv (v := nI j) dX9_advanceOverWord_6 fg9_27 (Ft.1) (v5) ?_
    refine PW_aload_n (i := 0) dX9_advanceOverWord_9 rfl rfl ?_
    refine PW_giv (v := nI L) dX9_advanceOverWord_10 fg9_15 (Ft.1) ((v1 1 (by decide) (by decide)).trans hT.1) ?_
    refine PW_icmp_ge 44 dX9_advanceOverWord_13 (by decide) (fun h13 => ?_) (fun h13 => ?_)
    · have h13 := jle h13
      refine PW_return rfl dX9_advanceOverWord_44 (Nat.le_of_ble_eq_true rfl) (Nat.le_of_ble_eq_true rfl) ?_
      have q : rn pL L B k = j := v3.trans (rn_n (by first | exact Or.inl h13 | exact Or.inr (by rw [h28]; decide)))
      rw [q]
      exact Wr_mk rfl ⟨v0, v5, v1, v2⟩
    · have h13 := jnle h13
      refine PW_aload_n (i := 0) dX9_advanceOverWord_16 rfl rfl ?_
      refine PW_getR dX9_advanceOverWord_17 fg9_9 (Ft.1) (Ft.2.2) ?_
      refine PW_aload_n (i := 0) dX9_advanceOverWord_20 rfl rfl ?_
      refine PW_giv (v := nI j) dX9_advanceOverWord_21 fg9_27 (Ft.1) (v5) ?_
      refine PW_ial (v := nI (B j)) dX9_advanceOverWord_24 (Ft.2.1) (by decide) (by omega) ((congrFun (v2 (t + 1) (by omega)) j).trans (hT.2 j (by omega))) ?_
      refine PW_callS dX9_advanceOverWord_25 moX9_isLetter cs9_113 (by omega) rfl rfl (Nat.le_of_ble_eq_true rfl) (Nat.le_of_ble_eq_true rfl) (Nat.le_of_ble_eq_true rfl) (spX9_isLetter (d := d - 1) (hB _ (by omega))) (fun v M1 hq => ?_)
      obtain ⟨rfl, rfl⟩ := hq
      refine PW_if_eq 44 dX9_advanceOverWord_28 (by decide) (fun h28 => ?_) (fun h28 => ?_)
      · have h28 := b2i_0.mp h28
        refine PW_return rfl dX9_advanceOverWord_44 (Nat.le_of_ble_eq_true rfl) (Nat.le_of_ble_eq_true rfl) ?_
        have q : rn pL L B k = j := v3.trans (rn_n (by first | exact Or.inl h13 | exact Or.inr (by rw [h28]; decide)))
        rw [q]
        exact Wr_mk rfl ⟨v0, v5, v1, v2⟩
      · have h28 := b2i_n.mp h28
        refine PW_aload_n (i := 0) dX9_advanceOverWord_31 rfl rfl ?_
        refine PW_dup dX9_advanceOverWord_32 rfl ?_
        refine PW_giv (v := nI j) dX9_advanceOverWord_33 fg9_27 (Ft.1) (v5) ?_
        refine PW_iconst (v := 1) dX9_advanceOverWord_36 (by decide) ?_
        refine PW_iadd dX9_advanceOverWord_37 ?_
        refine PW_eqi (nI_1 _) ?_
        refine PW_putI dX9_advanceOverWord_38 fr9_27 (fun h => by cases h) (Ft.1) ?_
        refine PW_goto 5 dX9_advanceOverWord_41 (by decide) ?_
        refine PW_nm rfl (fun i2 e2 => ?_)
        exact ih (j + 1) (by omega) (by omega) i2 (by rw [e2]; exact rI_s _ _ _ _) (by rw [e2, rI_k _ _ _ (by decide)]; exact v0) (fun a h1 h2 => by rw [e2, rI_k _ _ _ h2]; exact v1 a h1 h2) (fun q hq => by rw [e2, rI_f _ _ hq]; exact v2 q hq) (v3.trans (rn_y (by omega) h28))
set_option maxRecDepth 100000 in
set_option maxHeartbeats 4000000 in
theorem spX9_overWord {G : GE} {d : Nat} {i : MI0} {S : MS} {t : Nat} {L : Nat} {B : Nat → Nat} (Ft : TS S t) (hT : TXT i t L B) (hL : L ≤ 150) (hB : ∀ j, j < L → B j < 128) (hd : 1 ≤ d) {k : Nat} (hk : k ≤ L) (h5 : i t 5 = nI k) : Mt G iX9_advanceOverWord d [.ref t] (i, S) (Wr S (fun i' => i' t 3 = 1 ∧ i' t 5 = nI (rn pL L B k) ∧ (∀ a, a ≠ 3 → a ≠ 5 → i' t a = i t a) ∧ ∀ q, q ≠ t → i' q = i q)) := by
  refine Mt_in 0 (ls := [.ref t]) moX9_advanceOverWord (Nat.le_of_ble_eq_true rfl) rfl ?_
  refine PW_aload_n (i := 0) dX9_advanceOverWord_0 rfl rfl ?_
  refine PW_iconst (v := 1) dX9_advanceOverWord_1 (by decide) ?_
  refine PW_putI dX9_advanceOverWord_2 fr9_45 (fun h => by cases h) (Ft.1) ?_
  refine PW_nm rfl (fun i2 e2 => ?_)
  exact lpX9_overWord Ft hT hL hB hd (L + 1) k hk (by omega) i2 (by rw [e2, rI_k _ _ _ (by decide)]; exact h5) (by rw [e2]; exact rI_s _ _ _ _) (fun a h1 h2 => by rw [e2, rI_k _ _ _ h1]; rfl) (fun q hq => by rw [e2, rI_f _ _ hq]; rfl) rfl
set_option maxRecDepth 100000 in
set_option maxHeartbeats 4000000 in
theorem lpX9_overNumber {G : GE} {d : Nat} {i : MI0} {S : MS} {t : Nat} {L : Nat} {B : Nat → Nat} (Ft : TS S t) (hT : TXT i t L B) (hL : L ≤ 150) (hB : ∀ j, j < L → B j < 128) (hd : 1 ≤ d) {k : Nat} (h4 : i t 4 = nI k) : ∀ (n0 j : Nat), j ≤ L → L < j + n0 → ∀ (i' : MI0), k ≤ j → i' t 5 = nI j → i' t 6 = numI B k (j - k) → (∀ a, a ≠ 3 → a ≠ 5 → a ≠ 6 → i' t a = i t a) → (∀ q, q ≠ t → i' q = i q) → rn pF L B k = rn pF L B j → PW G iX9_advanceOverNumber d (Wr S (fun i' => i' t 3 = nI (if rn pF L B k - k ≤ 2 then 2 else 4) ∧ i' t 5 = nI (rn pF L B k) ∧ i' t 6 = numI B k (rn pF L B k - k) ∧ (∀ a, a ≠ 3 → a ≠ 5 → a ≠ 6 → i' t a = i t a) ∧ ∀ q, q ≠ t → i' q = i q)) 0 [.ref t] [] (i', S) 0 0 := by
  intro n0
  induction n0 with
  | zero => intro j h1 h2; exact absurd h2 (by omega)
  | succ n0 ih =>
    intro j hj1 hj2 i' w1 v5 v6 v1 v2 v3
    refine PW_aload_n (i := 0) dX9_advanceOverNumber_0 rfl rfl ?_
    refine PW_giv (v := nI j) dX9_advanceOverNumber_1 fg9_27 (Ft.1) (v5) ?_
    refine PW_aload_n (i := 0) dX9_advanceOverNumber_4 rfl rfl ?_
    refine PW_giv (v := nI L) dX9_advanceOverNumber_5 fg9_15 (Ft.1) ((v1 1 (by decide) (by decide) (by decide)).trans hT.1) ?_
    refine PW_icmp_ge 63 dX9_advanceOverNumber_8 (by decide) (fun h8 => ?_) (fun h8 => ?_)
    · have h8 := jle h8
      have q : rn pF L B k = j := v3.trans (rn_n (by first | exact Or.inl h8 | exact Or.inr (by rw [h23]; decide)))
      refine PW_aload_n (i := 0) dX9_advanceOverNumber_63 rfl rfl ?_
      refine PW_aload_n (i := 0) dX9_advanceOverNumber_64 rfl rfl ?_
      refine PW_giv (v := nI j) dX9_advanceOverNumber_65 fg9_27 (Ft.1) (v5) ?_
      refine PW_aload_n (i := 0) dX9_advanceOverNumber_68 rfl rfl ?_
      refine PW_giv (v := nI k) dX9_advanceOverNumber_69 fg9_101 (Ft.1) ((v1 4 (by decide) (by decide) (by decide)).trans h4) ?_
      refine PW_isub dX9_advanceOverNumber_72 ?_
      refine PW_eqi (pk_sub w1) ?_
      refine PW_iconst (v := 2) dX9_advanceOverNumber_73 (by decide) ?_
      refine PW_icmp_gt 81 dX9_advanceOverNumber_74 (by decide) (fun h74 => ?_) (fun h74 => ?_)
      · have h74 := jlt (a := 2) h74
        refine PW_iconst (v := 4) dX9_advanceOverNumber_81 (by decide) ?_
        refine PW_putI dX9_advanceOverNumber_82 fr9_45 (fun h => by cases h) (Ft.1) ?_
        refine PW_return rfl dX9_advanceOverNumber_85 (Nat.le_of_ble_eq_true rfl) (Nat.le_of_ble_eq_true rfl) ?_
        rw [q]
        refine Wr_mk rfl ⟨?_, ?_, ?_, fun a h1 h2 h3 => ?_, fun q hq => ?_⟩
        · rw [rI_s]; first | (rw [if_pos (by omega)]; rfl) | (rw [if_neg (by omega)]; rfl)
        · rw [rI_k _ _ _ (by decide)]; exact v5
        · rw [rI_k _ _ _ (by decide)]; exact v6
        · rw [rI_k _ _ _ h1]; exact v1 a h1 h2 h3
        · rw [rI_f _ _ hq]; exact v2 q hq
      · have h74 := jnlt (a := 2) h74
        refine PW_iconst (v := 2) dX9_advanceOverNumber_77 (by decide) ?_
        refine PW_goto 82 dX9_advanceOverNumber_78 (by decide) ?_
        refine PW_putI dX9_advanceOverNumber_82 fr9_45 (fun h => by cases h) (Ft.1) ?_
        refine PW_return rfl dX9_advanceOverNumber_85 (Nat.le_of_ble_eq_true rfl) (Nat.le_of_ble_eq_true rfl) ?_
        rw [q]
        refine Wr_mk rfl ⟨?_, ?_, ?_, fun a h1 h2 h3 => ?_, fun q hq => ?_⟩
        · rw [rI_s]; first | (rw [if_pos (by omega)]; rfl) | (rw [if_neg (by omega)]; rfl)
        · rw [rI_k _ _ _ (by decide)]; exact v5
        · rw [rI_k _ _ _ (by decide)]; exact v6
        · rw [rI_k _ _ _ h1]; exact v1 a h1 h2 h3
        · rw [rI_f _ _ hq]; exact v2 q hq
    · have h8 := jnle h8
      refine PW_aload_n (i := 0) dX9_advanceOverNumber_11 rfl rfl ?_
      refine PW_getR dX9_advanceOverNumber_12 fg9_9 (Ft.1) (Ft.2.2) ?_
      refine PW_aload_n (i := 0) dX9_advanceOverNumber_15 rfl rfl ?_
      refine PW_giv (v := nI j) dX9_advanceOverNumber_16 fg9_27 (Ft.1) (v5) ?_
      refine PW_ial (v := nI (B j)) dX9_advanceOverNumber_19 (Ft.2.1) (by decide) (by omega) ((congrFun (v2 (t + 1) (by omega)) j).trans (hT.2 j (by omega))) ?_
      refine PW_callS dX9_advanceOverNumber_20 moX9_isFigure cs9_119 (by omega) rfl rfl (Nat.le_of_ble_eq_true rfl) (Nat.le_of_ble_eq_true rfl) (Nat.le_of_ble_eq_true rfl) (spX9_isFigure (d := d - 1) (hB _ (by omega))) (fun v M1 hq => ?_)
      obtain ⟨rfl, rfl⟩ := hq
      refine PW_if_eq 63 dX9_advanceOverNumber_23 (by decide) (fun h23 => ?_) (fun h23 => ?_)
      · have h23 := b2i_0.mp h23
        have q : rn pF L B k = j := v3.trans (rn_n (by first | exact Or.inl h8 | exact Or.inr (by rw [h23]; decide)))
        refine PW_aload_n (i := 0) dX9_advanceOverNumber_63 rfl rfl ?_
        refine PW_aload_n (i := 0) dX9_advanceOverNumber_64 rfl rfl ?_
        refine PW_giv (v := nI j) dX9_advanceOverNumber_65 fg9_27 (Ft.1) (v5) ?_
        refine PW_aload_n (i := 0) dX9_advanceOverNumber_68 rfl rfl ?_
        refine PW_giv (v := nI k) dX9_advanceOverNumber_69 fg9_101 (Ft.1) ((v1 4 (by decide) (by decide) (by decide)).trans h4) ?_
        refine PW_isub dX9_advanceOverNumber_72 ?_
        refine PW_eqi (pk_sub w1) ?_
        refine PW_iconst (v := 2) dX9_advanceOverNumber_73 (by decide) ?_
        refine PW_icmp_gt 81 dX9_advanceOverNumber_74 (by decide) (fun h74 => ?_) (fun h74 => ?_)
        · have h74 := jlt (a := 2) h74
          refine PW_iconst (v := 4) dX9_advanceOverNumber_81 (by decide) ?_
          refine PW_putI dX9_advanceOverNumber_82 fr9_45 (fun h => by cases h) (Ft.1) ?_
          refine PW_return rfl dX9_advanceOverNumber_85 (Nat.le_of_ble_eq_true rfl) (Nat.le_of_ble_eq_true rfl) ?_
          rw [q]
          refine Wr_mk rfl ⟨?_, ?_, ?_, fun a h1 h2 h3 => ?_, fun q hq => ?_⟩
          · rw [rI_s]; first | (rw [if_pos (by omega)]; rfl) | (rw [if_neg (by omega)]; rfl)
          · rw [rI_k _ _ _ (by decide)]; exact v5
          · rw [rI_k _ _ _ (by decide)]; exact v6
          · rw [rI_k _ _ _ h1]; exact v1 a h1 h2 h3
          · rw [rI_f _ _ hq]; exact v2 q hq
        · have h74 := jnlt (a := 2) h74
          refine PW_iconst (v := 2) dX9_advanceOverNumber_77 (by decide) ?_
          refine PW_goto 82 dX9_advanceOverNumber_78 (by decide) ?_
          refine PW_putI dX9_advanceOverNumber_82 fr9_45 (fun h => by cases h) (Ft.1) ?_
          refine PW_return rfl dX9_advanceOverNumber_85 (Nat.le_of_ble_eq_true rfl) (Nat.le_of_ble_eq_true rfl) ?_
          rw [q]
          refine Wr_mk rfl ⟨?_, ?_, ?_, fun a h1 h2 h3 => ?_, fun q hq => ?_⟩
          · rw [rI_s]; first | (rw [if_pos (by omega)]; rfl) | (rw [if_neg (by omega)]; rfl)
          · rw [rI_k _ _ _ (by decide)]; exact v5
          · rw [rI_k _ _ _ (by decide)]; exact v6
          · rw [rI_k _ _ _ h1]; exact v1 a h1 h2 h3
          · rw [rI_f _ _ hq]; exact v2 q hq
      · have h23 := b2i_n.mp h23
        refine PW_aload_n (i := 0) dX9_advanceOverNumber_26 rfl rfl ?_
        refine PW_aload_n (i := 0) dX9_advanceOverNumber_27 rfl rfl ?_
        refine PW_giv (v := numI B k (j - k)) dX9_advanceOverNumber_28 fg9_70 (Ft.1) (v6) ?_
        refine PW_bipush (v := 10) dX9_advanceOverNumber_31 (by decide) ?_
        refine PW_imul dX9_advanceOverNumber_33 ?_
        refine PW_aload_n (i := 0) dX9_advanceOverNumber_34 rfl rfl ?_
        refine PW_getR dX9_advanceOverNumber_35 fg9_9 (Ft.1) (Ft.2.2) ?_
        refine PW_aload_n (i := 0) dX9_advanceOverNumber_38 rfl rfl ?_
        refine PW_giv (v := nI j) dX9_advanceOverNumber_39 fg9_27 (Ft.1) (v5) ?_
        refine PW_ial (v := nI (B j)) dX9_advanceOverNumber_42 (Ft.2.1) (by decide) (by omega) ((congrFun (v2 (t + 1) (by omega)) j).trans (hT.2 j (by omega))) ?_
        refine PW_bipush (v := 48) dX9_advanceOverNumber_43 (by decide) ?_
        refine PW_isub dX9_advanceOverNumber_45 ?_
        refine PW_iadd dX9_advanceOverNumber_46 ?_
        refine PW_putI dX9_advanceOverNumber_47 fr9_70 (fun h => by cases h) (Ft.1) ?_
        refine PW_aload_n (i := 0) dX9_advanceOverNumber_50 rfl rfl ?_
        refine PW_dup dX9_advanceOverNumber_51 rfl ?_
        refine PW_giv (v := nI j) dX9_advanceOverNumber_52 fg9_27 (Ft.1) ((rI_k _ _ _ (by decide)).trans v5) ?_
        refine PW_iconst (v := 1) dX9_advanceOverNumber_55 (by decide) ?_
        refine PW_iadd dX9_advanceOverNumber_56 ?_
        refine PW_eqi (nI_1 _) ?_
        refine PW_putI dX9_advanceOverNumber_57 fr9_27 (fun h => by cases h) (Ft.1) ?_
        refine PW_goto 0 dX9_advanceOverNumber_60 (by decide) ?_
        refine PW_nm rfl (fun i2 e2 => ?_)
        exact ih (j + 1) (by omega) (by omega) i2 (by omega) (by rw [e2]; exact rI_s _ _ _ _) (by rw [e2, rI_k _ _ _ (by decide), rI_s, show j + 1 - k = (j - k) + 1 by omega, numI, show k + (j - k) = j by omega]) (fun a h1 h2 h3 => by rw [e2, rI_k _ _ _ h2, rI_k _ _ _ h3]; exact v1 a h1 h2 h3) (fun q hq => by rw [e2, rI_f _ _ hq, rI_f _ _ hq]; exact v2 q hq) (v3.trans (rn_y (by omega) h23))
set_option maxRecDepth 100000 in
set_option maxHeartbeats 4000000 in
theorem spX9_overNumber {G : GE} {d : Nat} {i : MI0} {S : MS} {t : Nat} {L : Nat} {B : Nat → Nat} (Ft : TS S t) (hT : TXT i t L B) (hL : L ≤ 150) (hB : ∀ j, j < L → B j < 128) (hd : 1 ≤ d) {k : Nat} (hk : k ≤ L) (h4 : i t 4 = nI k) (h5 : i t 5 = nI k) (h6 : i t 6 = 0) : Mt G iX9_advanceOverNumber d [.ref t] (i, S) (Wr S (fun i' => i' t 3 = nI (if rn pF L B k - k ≤ 2 then 2 else 4) ∧ i' t 5 = nI (rn pF L B k) ∧ i' t 6 = numI B k (rn pF L B k - k) ∧ (∀ a, a ≠ 3 → a ≠ 5 → a ≠ 6 → i' t a = i t a) ∧ ∀ q, q ≠ t → i' q = i q)) := by
  refine Mt_in 0 (ls := [.ref t]) moX9_advanceOverNumber (Nat.le_of_ble_eq_true rfl) rfl ?_
  exact lpX9_overNumber Ft hT hL hB hd h4 (L + 1) k hk (by omega) i (Nat.le_refl _) h5 (by rw [Nat.sub_self]; exact h6) (fun _ _ _ _ => rfl) (fun _ _ => rfl) rfl
set_option maxRecDepth 100000 in
set_option maxHeartbeats 4000000 in
theorem tlX9_advance {G : GE} {d : Nat} {i0 : MI0} {S : MS} {t : Nat} {L : Nat} {B : Nat → Nat} (Ft : TS S t) (hT : TXT i0 t L B) (hL : L ≤ 150) (hB : ∀ j, j < L → B j < 128) (hd : 2 ≤ d) {i1 : MI0} {s : Nat} (hs : s ≤ L) (v4 : i1 t 4 = nI s) (v1 : ∀ a, a ≠ 4 → i1 t a = i0 t a) (v2 : ∀ q, q ≠ t → i1 q = i0 q) : PW G iX9_advance d (Wr S (fun i' => TKs i' t L B s ∧ i' t 2 = i0 t 2 ∧ ∀ q, q ≠ t → i' q = i0 q)) 46 [.ref t] [] (i1, S) 0 0 := by
  refine PW_aload_n (i := 0) dX9_advance_46 rfl rfl ?_
  refine PW_aload_n (i := 0) dX9_advance_47 rfl rfl ?_
  refine PW_giv (v := nI s) dX9_advance_48 fg9_101 (Ft.1) (v4) ?_
  refine PW_putI dX9_advance_51 fr9_27 (fun h => by cases h) (Ft.1) ?_
  refine PW_aload_n (i := 0) dX9_advance_54 rfl rfl ?_
  refine PW_iconst (v := 0) dX9_advance_55 (by decide) ?_
  refine PW_putI dX9_advance_56 fr9_70 (fun h => by cases h) (Ft.1) ?_
  refine PW_nm rfl (fun i2 e2 => ?_)
  have e3 : ∀ a, a ≠ 5 → a ≠ 6 → i2 t a = i1 t a := fun a h1 h2 => by rw [e2, rI_k _ _ _ h2, rI_k _ _ _ h1]; rfl
  have e5 : i2 t 5 = nI s := by rw [e2, rI_k _ _ _ (by decide)]; exact rI_s _ _ _ _
  have e6 : i2 t 6 = 0 := by rw [e2]; exact rI_s _ _ _ _
  have e7 : ∀ q, q ≠ t → i2 q = i0 q := fun q hq => by rw [e2, rI_f _ _ hq, rI_f _ _ hq]; exact v2 q hq
  have hT2 : TXT i2 t L B := ⟨(e3 1 (by decide) (by decide)).trans ((v1 1 (by decide)).trans hT.1), fun j hj => by rw [e7 (t + 1) (by omega)]; exact hT.2 j hj⟩
  have e8 : i2 t 2 = i0 t 2 := (e3 2 (by decide) (by decide)).trans (v1 2 (by decide))
  have e4 : i2 t 4 = nI s := (e3 4 (by decide) (by decide)).trans v4
  refine PW_aload_n (i := 0) dX9_advance_59 rfl rfl ?_
  refine PW_giv (v := nI s) dX9_advance_60 fg9_101 (Ft.1) ((e3 4 (by decide) (by decide)).trans v4) ?_
  refine PW_aload_n (i := 0) dX9_advance_63 rfl rfl ?_
  refine PW_giv (v := nI L) dX9_advance_64 fg9_15 (Ft.1) ((e3 1 (by decide) (by decide)).trans ((v1 1 (by decide)).trans hT.1)) ?_
  refine PW_icmp_lt 78 dX9_advance_67 (by decide) (fun h67 => ?_) (fun h67 => ?_)
  · have h67 := jlt h67
    refine PW_aload_n (i := 0) dX9_advance_78 rfl rfl ?_
    refine PW_getR dX9_advance_79 fg9_9 (Ft.1) (Ft.2.2) ?_
    refine PW_aload_n (i := 0) dX9_advance_82 rfl rfl ?_
    refine PW_giv (v := nI s) dX9_advance_83 fg9_101 (Ft.1) ((e3 4 (by decide) (by decide)).trans v4) ?_
    refine PW_ial (v := nI (B s)) dX9_advance_86 (Ft.2.1) (by decide) (by omega) (hT2.2 s (by omega)) ?_
    refine PW_callS dX9_advance_87 moX9_isLetter cs9_113 (by omega) rfl rfl (Nat.le_of_ble_eq_true rfl) (Nat.le_of_ble_eq_true rfl) (Nat.le_of_ble_eq_true rfl) (spX9_isLetter (d := d - 1) (hB _ (by omega))) (fun v M1 hq => ?_)
    obtain ⟨rfl, rfl⟩ := hq
    refine PW_if_eq 100 dX9_advance_90 (by decide) (fun h90 => ?_) (fun h90 => ?_)
    · have h90 := b2i_0.mp h90
      refine PW_aload_n (i := 0) dX9_advance_100 rfl rfl ?_
      refine PW_getR dX9_advance_101 fg9_9 (Ft.1) (Ft.2.2) ?_
      refine PW_aload_n (i := 0) dX9_advance_104 rfl rfl ?_
      refine PW_giv (v := nI s) dX9_advance_105 fg9_101 (Ft.1) ((e3 4 (by decide) (by decide)).trans v4) ?_
      refine PW_ial (v := nI (B s)) dX9_advance_108 (Ft.2.1) (by decide) (by omega) (hT2.2 s (by omega)) ?_
      refine PW_callS dX9_advance_109 moX9_isFigure cs9_119 (by omega) rfl rfl (Nat.le_of_ble_eq_true rfl) (Nat.le_of_ble_eq_true rfl) (Nat.le_of_ble_eq_true rfl) (spX9_isFigure (d := d - 1) (hB _ (by omega))) (fun v M1 hq => ?_)
      obtain ⟨rfl, rfl⟩ := hq
      refine PW_if_eq 122 dX9_advance_112 (by decide) (fun h112 => ?_) (fun h112 => ?_)
      · have h112 := b2i_0.mp h112
        refine PW_aload_n (i := 0) dX9_advance_122 rfl rfl ?_
        refine PW_aload_n (i := 0) dX9_advance_123 rfl rfl ?_
        refine PW_getR dX9_advance_124 fg9_9 (Ft.1) (Ft.2.2) ?_
        refine PW_aload_n (i := 0) dX9_advance_127 rfl rfl ?_
        refine PW_giv (v := nI s) dX9_advance_128 fg9_101 (Ft.1) ((e3 4 (by decide) (by decide)).trans v4) ?_
        refine PW_ial (v := nI (B s)) dX9_advance_131 (Ft.2.1) (by decide) (by omega) (hT2.2 s (by omega)) ?_
        refine PW_bipush (v := 59) dX9_advance_132 (by decide) ?_
        have hB9 := hB s (by omega)
        refine PW_icmp_ne 141 dX9_advance_134 (by decide) (fun h134 => ?_) (fun h134 => ?_)
        · have h134 := jne (b := 59) h134
          refine PW_iconst (v := 4) dX9_advance_141 (by decide) ?_
          refine PW_putI dX9_advance_142 fr9_45 (fun h => by cases h) (Ft.1) ?_
          refine PW_aload_n (i := 0) dX9_advance_145 rfl rfl ?_
          refine PW_dup dX9_advance_146 rfl ?_
          refine PW_giv (v := nI s) dX9_advance_147 fg9_27 (Ft.1) ((rI_k _ _ _ (by decide)).trans e5) ?_
          refine PW_iconst (v := 1) dX9_advance_150 (by decide) ?_
          refine PW_iadd dX9_advance_151 ?_
          refine PW_eqi (nI_1 _) ?_
          refine PW_putI dX9_advance_152 fr9_27 (fun h => by cases h) (Ft.1) ?_
          refine PW_return rfl dX9_advance_155 (Nat.le_of_ble_eq_true rfl) (Nat.le_of_ble_eq_true rfl) ?_
          first
            | (refine Wr_mk rfl ⟨⟨⟨?_, ?_⟩, ?_, ?_, ?_, ?_⟩, ?_, fun q hq => ?_⟩; (rw [rI_k _ _ _ (by decide)]; exact hT2.1); (intro j hj; rw [rI_f _ _ (by omega)]; exact hT2.2 j hj); (rw [rI_s]; unfold tT; rw [if_pos h67]; rfl); (rw [rI_k _ _ _ (by decide)]; exact e4); (rw [rI_k _ _ _ (by decide)]; unfold tE; rw [if_pos h67]; exact e5); (rw [rI_k _ _ _ (by decide)]; unfold tN; rw [if_pos h67]; exact e6); (rw [rI_k _ _ _ (by decide)]; exact e8); (rw [rI_f _ _ hq]; exact e7 q hq))
            | (refine Wr_mk rfl ⟨⟨⟨?_, ?_⟩, ?_, ?_, ?_, ?_⟩, ?_, fun q hq => ?_⟩; exact (p3 1 (by decide) (by decide)).trans hT2.1; (intro j hj; rw [rP, p4 (t + 1) (by omega)]; exact hT2.2 j hj); (unfold tT; rw [if_neg (by omega), if_pos h90]; exact p1); exact (p3 4 (by decide) (by decide)).trans e4; (unfold tE; rw [if_neg (by omega), if_pos h90]; exact p2); (unfold tN; rw [if_neg (by omega), if_pos h90]; exact (p3 6 (by decide) (by decide)).trans e6); exact (p3 2 (by decide) (by decide)).trans e8; exact (p4 q hq).trans (e7 q hq))
            | (have n90 : ¬ pL (B s) = true := (by rw [h90]; decide); refine Wr_mk rfl ⟨⟨⟨?_, ?_⟩, ?_, ?_, ?_, ?_⟩, ?_, fun q hq => ?_⟩; exact (p4 1 (by decide) (by decide) (by decide)).trans hT2.1; (intro j hj; rw [rP, p5 (t + 1) (by omega)]; exact hT2.2 j hj); (unfold tT; rw [if_neg (by omega), if_neg n90, if_pos h112]; exact p1); exact (p4 4 (by decide) (by decide) (by decide)).trans e4; (unfold tE; rw [if_neg (by omega), if_neg n90, if_pos h112]; exact p2); (unfold tN; rw [if_neg (by omega), if_neg n90, if_pos h112]; exact p3); exact (p4 2 (by decide) (by decide) (by decide)).trans e8; exact (p5 q hq).trans (e7 q hq))
            | (have n90 : ¬ pL (B s) = true := (by rw [h90]; decide); have n112 : ¬ pF (B s) = true := (by rw [h112]; decide); refine Wr_mk rfl ⟨⟨⟨?_, ?_⟩, ?_, ?_, ?_, ?_⟩, ?_, fun q hq => ?_⟩; (rw [rI_k _ _ _ (by decide), rI_k _ _ _ (by decide)]; exact hT2.1); (intro j hj; rw [rI_f _ _ (by omega), rI_f _ _ (by omega)]; exact hT2.2 j hj); (rw [rI_k _ _ _ (by decide), rI_s]; unfold tT; rw [if_neg (by omega), if_neg n90, if_neg n112]; first | (rw [if_pos h134]; rfl) | (rw [if_neg h134]; rfl)); (rw [rI_k _ _ _ (by decide), rI_k _ _ _ (by decide)]; exact e4); (rw [rI_s]; unfold tE; rw [if_neg (by omega), if_neg n90, if_neg n112]); (rw [rI_k _ _ _ (by decide), rI_k _ _ _ (by decide)]; unfold tN; rw [if_neg (by omega), if_neg n90, if_neg n112]; exact e6); (rw [rI_k _ _ _ (by decide), rI_k _ _ _ (by decide)]; exact e8); (rw [rI_f _ _ hq, rI_f _ _ hq]; exact e7 q hq))
        · have h134 := jeq (b := 59) h134
          refine PW_iconst (v := 3) dX9_advance_137 (by decide) ?_
          refine PW_goto 142 dX9_advance_138 (by decide) ?_
          refine PW_putI dX9_advance_142 fr9_45 (fun h => by cases h) (Ft.1) ?_
          refine PW_aload_n (i := 0) dX9_advance_145 rfl rfl ?_
          refine PW_dup dX9_advance_146 rfl ?_
          refine PW_giv (v := nI s) dX9_advance_147 fg9_27 (Ft.1) ((rI_k _ _ _ (by decide)).trans e5) ?_
          refine PW_iconst (v := 1) dX9_advance_150 (by decide) ?_
          refine PW_iadd dX9_advance_151 ?_
          refine PW_eqi (nI_1 _) ?_
          refine PW_putI dX9_advance_152 fr9_27 (fun h => by cases h) (Ft.1) ?_
          refine PW_return rfl dX9_advance_155 (Nat.le_of_ble_eq_true rfl) (Nat.le_of_ble_eq_true rfl) ?_
          first
            | (refine Wr_mk rfl ⟨⟨⟨?_, ?_⟩, ?_, ?_, ?_, ?_⟩, ?_, fun q hq => ?_⟩; (rw [rI_k _ _ _ (by decide)]; exact hT2.1); (intro j hj; rw [rI_f _ _ (by omega)]; exact hT2.2 j hj); (rw [rI_s]; unfold tT; rw [if_pos h67]; rfl); (rw [rI_k _ _ _ (by decide)]; exact e4); (rw [rI_k _ _ _ (by decide)]; unfold tE; rw [if_pos h67]; exact e5); (rw [rI_k _ _ _ (by decide)]; unfold tN; rw [if_pos h67]; exact e6); (rw [rI_k _ _ _ (by decide)]; exact e8); (rw [rI_f _ _ hq]; exact e7 q hq))
            | (refine Wr_mk rfl ⟨⟨⟨?_, ?_⟩, ?_, ?_, ?_, ?_⟩, ?_, fun q hq => ?_⟩; exact (p3 1 (by decide) (by decide)).trans hT2.1; (intro j hj; rw [rP, p4 (t + 1) (by omega)]; exact hT2.2 j hj); (unfold tT; rw [if_neg (by omega), if_pos h90]; exact p1); exact (p3 4 (by decide) (by decide)).trans e4; (unfold tE; rw [if_neg (by omega), if_pos h90]; exact p2); (unfold tN; rw [if_neg (by omega), if_pos h90]; exact (p3 6 (by decide) (by decide)).trans e6); exact (p3 2 (by decide) (by decide)).trans e8; exact (p4 q hq).trans (e7 q hq))
            | (have n90 : ¬ pL (B s) = true := (by rw [h90]; decide); refine Wr_mk rfl ⟨⟨⟨?_, ?_⟩, ?_, ?_, ?_, ?_⟩, ?_, fun q hq => ?_⟩; exact (p4 1 (by decide) (by decide) (by decide)).trans hT2.1; (intro j hj; rw [rP, p5 (t + 1) (by omega)]; exact hT2.2 j hj); (unfold tT; rw [if_neg (by omega), if_neg n90, if_pos h112]; exact p1); exact (p4 4 (by decide) (by decide) (by decide)).trans e4; (unfold tE; rw [if_neg (by omega), if_neg n90, if_pos h112]; exact p2); (unfold tN; rw [if_neg (by omega), if_neg n90, if_pos h112]; exact p3); exact (p4 2 (by decide) (by decide) (by decide)).trans e8; exact (p5 q hq).trans (e7 q hq))
            | (have n90 : ¬ pL (B s) = true := (by rw [h90]; decide); have n112 : ¬ pF (B s) = true := (by rw [h112]; decide); refine Wr_mk rfl ⟨⟨⟨?_, ?_⟩, ?_, ?_, ?_, ?_⟩, ?_, fun q hq => ?_⟩; (rw [rI_k _ _ _ (by decide), rI_k _ _ _ (by decide)]; exact hT2.1); (intro j hj; rw [rI_f _ _ (by omega), rI_f _ _ (by omega)]; exact hT2.2 j hj); (rw [rI_k _ _ _ (by decide), rI_s]; unfold tT; rw [if_neg (by omega), if_neg n90, if_neg n112]; first | (rw [if_pos h134]; rfl) | (rw [if_neg h134]; rfl)); (rw [rI_k _ _ _ (by decide), rI_k _ _ _ (by decide)]; exact e4); (rw [rI_s]; unfold tE; rw [if_neg (by omega), if_neg n90, if_neg n112]); (rw [rI_k _ _ _ (by decide), rI_k _ _ _ (by decide)]; unfold tN; rw [if_neg (by omega), if_neg n90, if_neg n112]; exact e6); (rw [rI_k _ _ _ (by decide), rI_k _ _ _ (by decide)]; exact e8); (rw [rI_f _ _ hq, rI_f _ _ hq]; exact e7 q hq))
      · have h112 := b2i_n.mp h112
        refine PW_aload_n (i := 0) dX9_advance_115 rfl rfl ?_
        refine PW_callV dX9_advance_116 moX9_advanceOverNumber cv9_122 (Ft.1) (by omega) rfl rfl (Nat.le_of_ble_eq_true rfl) (Nat.le_of_ble_eq_true rfl) (Nat.le_of_ble_eq_true rfl) (spX9_overNumber (d := d - 1) Ft hT2 hL hB (by omega) hs e4 e5 e6) (fun v M1 hq => ?_)
        obtain ⟨rfl, i3, rfl, p1, p2, p3, p4, p5⟩ := hq
        refine PW_goto 155 dX9_advance_119 (by decide) ?_
        refine PW_return rfl dX9_advance_155 (Nat.le_of_ble_eq_true rfl) (Nat.le_of_ble_eq_true rfl) ?_
        first
          | (refine Wr_mk rfl ⟨⟨⟨?_, ?_⟩, ?_, ?_, ?_, ?_⟩, ?_, fun q hq => ?_⟩; (rw [rI_k _ _ _ (by decide)]; exact hT2.1); (intro j hj; rw [rI_f _ _ (by omega)]; exact hT2.2 j hj); (rw [rI_s]; unfold tT; rw [if_pos h67]; rfl); (rw [rI_k _ _ _ (by decide)]; exact e4); (rw [rI_k _ _ _ (by decide)]; unfold tE; rw [if_pos h67]; exact e5); (rw [rI_k _ _ _ (by decide)]; unfold tN; rw [if_pos h67]; exact e6); (rw [rI_k _ _ _ (by decide)]; exact e8); (rw [rI_f _ _ hq]; exact e7 q hq))
          | (refine Wr_mk rfl ⟨⟨⟨?_, ?_⟩, ?_, ?_, ?_, ?_⟩, ?_, fun q hq => ?_⟩; exact (p3 1 (by decide) (by decide)).trans hT2.1; (intro j hj; rw [rP, p4 (t + 1) (by omega)]; exact hT2.2 j hj); (unfold tT; rw [if_neg (by omega), if_pos h90]; exact p1); exact (p3 4 (by decide) (by decide)).trans e4; (unfold tE; rw [if_neg (by omega), if_pos h90]; exact p2); (unfold tN; rw [if_neg (by omega), if_pos h90]; exact (p3 6 (by decide) (by decide)).trans e6); exact (p3 2 (by decide) (by decide)).trans e8; exact (p4 q hq).trans (e7 q hq))
          | (have n90 : ¬ pL (B s) = true := (by rw [h90]; decide); refine Wr_mk rfl ⟨⟨⟨?_, ?_⟩, ?_, ?_, ?_, ?_⟩, ?_, fun q hq => ?_⟩; exact (p4 1 (by decide) (by decide) (by decide)).trans hT2.1; (intro j hj; rw [rP, p5 (t + 1) (by omega)]; exact hT2.2 j hj); (unfold tT; rw [if_neg (by omega), if_neg n90, if_pos h112]; exact p1); exact (p4 4 (by decide) (by decide) (by decide)).trans e4; (unfold tE; rw [if_neg (by omega), if_neg n90, if_pos h112]; exact p2); (unfold tN; rw [if_neg (by omega), if_neg n90, if_pos h112]; exact p3); exact (p4 2 (by decide) (by decide) (by decide)).trans e8; exact (p5 q hq).trans (e7 q hq))
          | (have n90 : ¬ pL (B s) = true := (by rw [h90]; decide); have n112 : ¬ pF (B s) = true := (by rw [h112]; decide); refine Wr_mk rfl ⟨⟨⟨?_, ?_⟩, ?_, ?_, ?_, ?_⟩, ?_, fun q hq => ?_⟩; (rw [rI_k _ _ _ (by decide), rI_k _ _ _ (by decide)]; exact hT2.1); (intro j hj; rw [rI_f _ _ (by omega), rI_f _ _ (by omega)]; exact hT2.2 j hj); (rw [rI_k _ _ _ (by decide), rI_s]; unfold tT; rw [if_neg (by omega), if_neg n90, if_neg n112]; first | (rw [if_pos h134]; rfl) | (rw [if_neg h134]; rfl)); (rw [rI_k _ _ _ (by decide), rI_k _ _ _ (by decide)]; exact e4); (rw [rI_s]; unfold tE; rw [if_neg (by omega), if_neg n90, if_neg n112]); (rw [rI_k _ _ _ (by decide), rI_k _ _ _ (by decide)]; unfold tN; rw [if_neg (by omega), if_neg n90, if_neg n112]; exact e6); (rw [rI_k _ _ _ (by decide), rI_k _ _ _ (by decide)]; exact e8); (rw [rI_f _ _ hq, rI_f _ _ hq]; exact e7 q hq))
    · have h90 := b2i_n.mp h90
      refine PW_aload_n (i := 0) dX9_advance_93 rfl rfl ?_
      refine PW_callV dX9_advance_94 moX9_advanceOverWord cv9_116 (Ft.1) (by omega) rfl rfl (Nat.le_of_ble_eq_true rfl) (Nat.le_of_ble_eq_true rfl) (Nat.le_of_ble_eq_true rfl) (spX9_overWord (d := d - 1) Ft hT2 hL hB (by omega) hs e5) (fun v M1 hq => ?_)
      obtain ⟨rfl, i3, rfl, p1, p2, p3, p4⟩ := hq
      refine PW_goto 155 dX9_advance_97 (by decide) ?_
      refine PW_return rfl dX9_advance_155 (Nat.le_of_ble_eq_true rfl) (Nat.le_of_ble_eq_true rfl) ?_
      first
        | (refine Wr_mk rfl ⟨⟨⟨?_, ?_⟩, ?_, ?_, ?_, ?_⟩, ?_, fun q hq => ?_⟩; (rw [rI_k _ _ _ (by decide)]; exact hT2.1); (intro j hj; rw [rI_f _ _ (by omega)]; exact hT2.2 j hj); (rw [rI_s]; unfold tT; rw [if_pos h67]; rfl); (rw [rI_k _ _ _ (by decide)]; exact e4); (rw [rI_k _ _ _ (by decide)]; unfold tE; rw [if_pos h67]; exact e5); (rw [rI_k _ _ _ (by decide)]; unfold tN; rw [if_pos h67]; exact e6); (rw [rI_k _ _ _ (by decide)]; exact e8); (rw [rI_f _ _ hq]; exact e7 q hq))
        | (refine Wr_mk rfl ⟨⟨⟨?_, ?_⟩, ?_, ?_, ?_, ?_⟩, ?_, fun q hq => ?_⟩; exact (p3 1 (by decide) (by decide)).trans hT2.1; (intro j hj; rw [rP, p4 (t + 1) (by omega)]; exact hT2.2 j hj); (unfold tT; rw [if_neg (by omega), if_pos h90]; exact p1); exact (p3 4 (by decide) (by decide)).trans e4; (unfold tE; rw [if_neg (by omega), if_pos h90]; exact p2); (unfold tN; rw [if_neg (by omega), if_pos h90]; exact (p3 6 (by decide) (by decide)).trans e6); exact (p3 2 (by decide) (by decide)).trans e8; exact (p4 q hq).trans (e7 q hq))
        | (have n90 : ¬ pL (B s) = true := (by rw [h90]; decide); refine Wr_mk rfl ⟨⟨⟨?_, ?_⟩, ?_, ?_, ?_, ?_⟩, ?_, fun q hq => ?_⟩; exact (p4 1 (by decide) (by decide) (by decide)).trans hT2.1; (intro j hj; rw [rP, p5 (t + 1) (by omega)]; exact hT2.2 j hj); (unfold tT; rw [if_neg (by omega), if_neg n90, if_pos h112]; exact p1); exact (p4 4 (by decide) (by decide) (by decide)).trans e4; (unfold tE; rw [if_neg (by omega), if_neg n90, if_pos h112]; exact p2); (unfold tN; rw [if_neg (by omega), if_neg n90, if_pos h112]; exact p3); exact (p4 2 (by decide) (by decide) (by decide)).trans e8; exact (p5 q hq).trans (e7 q hq))
        | (have n90 : ¬ pL (B s) = true := (by rw [h90]; decide); have n112 : ¬ pF (B s) = true := (by rw [h112]; decide); refine Wr_mk rfl ⟨⟨⟨?_, ?_⟩, ?_, ?_, ?_, ?_⟩, ?_, fun q hq => ?_⟩; (rw [rI_k _ _ _ (by decide), rI_k _ _ _ (by decide)]; exact hT2.1); (intro j hj; rw [rI_f _ _ (by omega), rI_f _ _ (by omega)]; exact hT2.2 j hj); (rw [rI_k _ _ _ (by decide), rI_s]; unfold tT; rw [if_neg (by omega), if_neg n90, if_neg n112]; first | (rw [if_pos h134]; rfl) | (rw [if_neg h134]; rfl)); (rw [rI_k _ _ _ (by decide), rI_k _ _ _ (by decide)]; exact e4); (rw [rI_s]; unfold tE; rw [if_neg (by omega), if_neg n90, if_neg n112]); (rw [rI_k _ _ _ (by decide), rI_k _ _ _ (by decide)]; unfold tN; rw [if_neg (by omega), if_neg n90, if_neg n112]; exact e6); (rw [rI_k _ _ _ (by decide), rI_k _ _ _ (by decide)]; exact e8); (rw [rI_f _ _ hq, rI_f _ _ hq]; exact e7 q hq))
  · have h67 := jnlt h67
    refine PW_aload_n (i := 0) dX9_advance_70 rfl rfl ?_
    refine PW_iconst (v := 0) dX9_advance_71 (by decide) ?_
    refine PW_putI dX9_advance_72 fr9_45 (fun h => by cases h) (Ft.1) ?_
    refine PW_goto 155 dX9_advance_75 (by decide) ?_
    refine PW_return rfl dX9_advance_155 (Nat.le_of_ble_eq_true rfl) (Nat.le_of_ble_eq_true rfl) ?_
    first
      | (refine Wr_mk rfl ⟨⟨⟨?_, ?_⟩, ?_, ?_, ?_, ?_⟩, ?_, fun q hq => ?_⟩; (rw [rI_k _ _ _ (by decide)]; exact hT2.1); (intro j hj; rw [rI_f _ _ (by omega)]; exact hT2.2 j hj); (rw [rI_s]; unfold tT; rw [if_pos h67]; rfl); (rw [rI_k _ _ _ (by decide)]; exact e4); (rw [rI_k _ _ _ (by decide)]; unfold tE; rw [if_pos h67]; exact e5); (rw [rI_k _ _ _ (by decide)]; unfold tN; rw [if_pos h67]; exact e6); (rw [rI_k _ _ _ (by decide)]; exact e8); (rw [rI_f _ _ hq]; exact e7 q hq))
      | (refine Wr_mk rfl ⟨⟨⟨?_, ?_⟩, ?_, ?_, ?_, ?_⟩, ?_, fun q hq => ?_⟩; exact (p3 1 (by decide) (by decide)).trans hT2.1; (intro j hj; rw [rP, p4 (t + 1) (by omega)]; exact hT2.2 j hj); (unfold tT; rw [if_neg (by omega), if_pos h90]; exact p1); exact (p3 4 (by decide) (by decide)).trans e4; (unfold tE; rw [if_neg (by omega), if_pos h90]; exact p2); (unfold tN; rw [if_neg (by omega), if_pos h90]; exact (p3 6 (by decide) (by decide)).trans e6); exact (p3 2 (by decide) (by decide)).trans e8; exact (p4 q hq).trans (e7 q hq))
      | (have n90 : ¬ pL (B s) = true := (by rw [h90]; decide); refine Wr_mk rfl ⟨⟨⟨?_, ?_⟩, ?_, ?_, ?_, ?_⟩, ?_, fun q hq => ?_⟩; exact (p4 1 (by decide) (by decide) (by decide)).trans hT2.1; (intro j hj; rw [rP, p5 (t + 1) (by omega)]; exact hT2.2 j hj); (unfold tT; rw [if_neg (by omega), if_neg n90, if_pos h112]; exact p1); exact (p4 4 (by decide) (by decide) (by decide)).trans e4; (unfold tE; rw [if_neg (by omega), if_neg n90, if_pos h112]; exact p2); (unfold tN; rw [if_neg (by omega), if_neg n90, if_pos h112]; exact p3); exact (p4 2 (by decide) (by decide) (by decide)).trans e8; exact (p5 q hq).trans (e7 q hq))
      | (have n90 : ¬ pL (B s) = true := (by rw [h90]; decide); have n112 : ¬ pF (B s) = true := (by rw [h112]; decide); refine Wr_mk rfl ⟨⟨⟨?_, ?_⟩, ?_, ?_, ?_, ?_⟩, ?_, fun q hq => ?_⟩; (rw [rI_k _ _ _ (by decide), rI_k _ _ _ (by decide)]; exact hT2.1); (intro j hj; rw [rI_f _ _ (by omega), rI_f _ _ (by omega)]; exact hT2.2 j hj); (rw [rI_k _ _ _ (by decide), rI_s]; unfold tT; rw [if_neg (by omega), if_neg n90, if_neg n112]; first | (rw [if_pos h134]; rfl) | (rw [if_neg h134]; rfl)); (rw [rI_k _ _ _ (by decide), rI_k _ _ _ (by decide)]; exact e4); (rw [rI_s]; unfold tE; rw [if_neg (by omega), if_neg n90, if_neg n112]); (rw [rI_k _ _ _ (by decide), rI_k _ _ _ (by decide)]; unfold tN; rw [if_neg (by omega), if_neg n90, if_neg n112]; exact e6); (rw [rI_k _ _ _ (by decide), rI_k _ _ _ (by decide)]; exact e8); (rw [rI_f _ _ hq, rI_f _ _ hq]; exact e7 q hq))
set_option maxRecDepth 100000 in
set_option maxHeartbeats 4000000 in
theorem lpX9_advance {G : GE} {d : Nat} {i0 : MI0} {S : MS} {t : Nat} {L : Nat} {B : Nat → Nat} (Ft : TS S t) (hT : TXT i0 t L B) (hL : L ≤ 150) (hB : ∀ j, j < L → B j < 128) (hd : 2 ≤ d) {e : Nat} : ∀ (n0 j : Nat), j ≤ L → L < j + n0 → ∀ (i1 : MI0), i1 t 4 = nI j → (∀ a, a ≠ 4 → i1 t a = i0 t a) → (∀ q, q ≠ t → i1 q = i0 q) → rn pS L B e = rn pS L B j → PW G iX9_advance d (Wr S (fun i' => TKs i' t L B (rn pS L B e) ∧ i' t 2 = i0 t 2 ∧ ∀ q, q ≠ t → i' q = i0 q)) 8 [.ref t] [] (i1, S) 0 0 := by
  intro n0
  induction n0 with
  | zero => intro j h1 h2; exact absurd h2 (by omega)
  | succ n0 ih =>
    intro j hj1 hj2 i1 v4 v1 v2 v3
    refine PW_aload_n (i := 0) dX9_advance_8 rfl rfl ?_
    refine PW_giv (v := nI j) dX9_advance_9 fg9_101 (Ft.1) (v4) ?_
    refine PW_aload_n (i := 0) dX9_advance_12 rfl rfl ?_
    refine PW_giv (v := nI L) dX9_advance_13 fg9_15 (Ft.1) ((v1 1 (by decide)).trans hT.1) ?_
    refine PW_icmp_ge 46 dX9_advance_16 (by decide) (fun h16 => ?_) (fun h16 => ?_)
    · have h16 := jle h16
      have q : rn pS L B e = j := v3.trans (rn_n (by first | exact Or.inl h16 | exact Or.inr (by unfold pS; rw [decide_eq_false h30]; decide)))
      rw [q]
      exact tlX9_advance Ft hT hL hB hd (by omega) v4 v1 v2
    · have h16 := jnle h16
      refine PW_aload_n (i := 0) dX9_advance_19 rfl rfl ?_
      refine PW_getR dX9_advance_20 fg9_9 (Ft.1) (Ft.2.2) ?_
      refine PW_aload_n (i := 0) dX9_advance_23 rfl rfl ?_
      refine PW_giv (v := nI j) dX9_advance_24 fg9_101 (Ft.1) (v4) ?_
      refine PW_ial (v := nI (B j)) dX9_advance_27 (Ft.2.1) (by decide) (by omega) ((congrFun (v2 (t + 1) (by omega)) j).trans (hT.2 j (by omega))) ?_
      refine PW_bipush (v := 32) dX9_advance_28 (by decide) ?_
      have hB9 := hB j (by omega)
      refine PW_icmp_ne 46 dX9_advance_30 (by decide) (fun h30 => ?_) (fun h30 => ?_)
      · have h30 := jne (b := 32) h30
        have q : rn pS L B e = j := v3.trans (rn_n (by first | exact Or.inl h16 | exact Or.inr (by unfold pS; rw [decide_eq_false h30]; decide)))
        rw [q]
        exact tlX9_advance Ft hT hL hB hd (by omega) v4 v1 v2
      · have h30 := jeq (b := 32) h30
        refine PW_aload_n (i := 0) dX9_advance_33 rfl rfl ?_
        refine PW_dup dX9_advance_34 rfl ?_
        refine PW_giv (v := nI j) dX9_advance_35 fg9_101 (Ft.1) (v4) ?_
        refine PW_iconst (v := 1) dX9_advance_38 (by decide) ?_
        refine PW_iadd dX9_advance_39 ?_
        refine PW_eqi (nI_1 _) ?_
        refine PW_putI dX9_advance_40 fr9_101 (fun h => by cases h) (Ft.1) ?_
        refine PW_goto 8 dX9_advance_43 (by decide) ?_
        refine PW_nm rfl (fun i2 e2 => ?_)
        exact ih (j + 1) (by omega) (by omega) i2 (by rw [e2]; exact rI_s _ _ _ _) (fun a h1 => by rw [e2, rI_k _ _ _ h1]; exact v1 a h1) (fun q hq => by rw [e2, rI_f _ _ hq]; exact v2 q hq) (v3.trans (rn_y (by omega) (decide_eq_true h30)))
set_option maxRecDepth 100000 in
set_option maxHeartbeats 4000000 in
theorem spX9_advance {G : GE} {d : Nat} {i0 : MI0} {S : MS} {t : Nat} {L : Nat} {B : Nat → Nat} (Ft : TS S t) (hT : TXT i0 t L B) (hL : L ≤ 150) (hB : ∀ j, j < L → B j < 128) (hd : 2 ≤ d) {e : Nat} (he : e ≤ L) (h5 : i0 t 5 = nI e) : Mt G iX9_advance d [.ref t] (i0, S) (Wr S (fun i' => TKs i' t L B (rn pS L B e) ∧ i' t 2 = i0 t 2 ∧ ∀ q, q ≠ t → i' q = i0 q)) := by
  refine Mt_in 0 (ls := [.ref t]) moX9_advance (Nat.le_of_ble_eq_true rfl) rfl ?_
  refine PW_aload_n (i := 0) dX9_advance_0 rfl rfl ?_
  refine PW_aload_n (i := 0) dX9_advance_1 rfl rfl ?_
  refine PW_giv (v := nI e) dX9_advance_2 fg9_27 (Ft.1) (h5) ?_
  refine PW_putI dX9_advance_5 fr9_101 (fun h => by cases h) (Ft.1) ?_
  refine PW_nm rfl (fun i2 e2 => ?_)
  exact lpX9_advance Ft hT hL hB hd (L + 1) e he (by omega) i2 (by rw [e2]; exact rI_s _ _ _ _) (fun a h1 => by rw [e2, rI_k _ _ _ h1]; rfl) (fun q hq => by rw [e2, rI_f _ _ hq]; rfl) rfl
