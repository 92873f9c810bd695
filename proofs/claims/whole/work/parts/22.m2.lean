/-! to the front of a row -/
def s1_ (f : Nat → Int32) (k : Nat) : Nat → Int32 := fun i => if 1 ≤ i ∧ i ≤ k then f (i - 1) else f i
theorem s1_0 (f : Nat → Int32) : s1_ f 0 = f := by funext i; exact if_neg (by omega)
theorem s1_s (f : Nat → Int32) (k : Nat) : s1_ (upd f (k + 1) (f k)) k = s1_ f (k + 1) := by
  funext i
  simp only [s1_, upd]
  by_cases e : i = k + 1
  · subst e
    rw [if_neg (by omega), if_pos rfl, if_pos (by omega)]
    rfl
  · by_cases q : 1 ≤ i ∧ i ≤ k
    · rw [if_pos q, if_neg (by omega), if_pos (by omega)]
    · rw [if_neg q, if_neg e, if_neg (by omega)]
theorem s1_pr (f : Nat → Int32) (k : Nat) (b : Int32) : pr_ (upd (s1_ f k) 0 b) (k + 1) = b :: pr_ f k := by
  apply List.ext_getElem?
  intro i
  by_cases h : i < k + 1
  · cases i with
    | zero => simp [pr_, upd]
    | succ i =>
      have h2 : i < k := by omega
      simp [pr_, upd, s1_, h, h2, show i + 1 ≤ k by omega]
  · cases i with
    | zero => omega
    | succ i =>
      have h2 : ¬ i < k := by omega
      simp [pr_, h, h2]
theorem aw_loop (b : Int32) : ∀ (n k : Nat) (u : ob_S), k < n → k ≤ 63 → k_X3_addWrittenFirst_15 b n (nI k) u = ob_i (u.1, va_up u.2 2 (upd (s1_ (u.2 2) k) 0 b)) 3 (u.1 3 + 1) := by
  intro n
  induction n with
  | zero => intro k u h; omega
  | succ n ih =>
    intro k u h1 h2
    cases k with
    | zero =>
      have e : k_X3_addWrittenFirst_15 b (n + 1) (nI 0) u = ob_i (ob_a u 2 (Int32.toNatClampNeg 0) b) 3 (u.1 3 + 1) := if_pos (by decide)
      rw [e, s1_0]
      rfl
    | succ k =>
      have c : ¬ nI (k + 1) ≤ 0 := nI_nle (by omega) (by omega)
      have e : k_X3_addWrittenFirst_15 b (n + 1) (nI (k + 1)) u = k_X3_addWrittenFirst_15 b n (nI k) (ob_a u 2 (k + 1) (u.2 2 k)) := (if_neg c).trans (by rw [nI_m, nI_p, tn_nI (by omega), tn_nI (by omega)])
      rw [e, ih k _ (by omega) (by omega)]
      show (upd u.1 3 (u.1 3 + 1), va_up (va_up u.2 2 (upd (u.2 2) (k + 1) (u.2 2 k))) 2 (upd (s1_ (va_up u.2 2 (upd (u.2 2) (k + 1) (u.2 2 k)) 2) k) 0 b)) = (upd u.1 3 (u.1 3 + 1), va_up u.2 2 (upd (s1_ (u.2 2) (k + 1)) 0 b))
      rw [up_self, s1_s, bx_uu]
/-- what writes does behind its loop -/
def ew_ (b : Int32) (u : ob_S) : ob_S := ob_a (ob_a (ob_a (ob_i (ob_i (ob_i (ob_a u 14 0 b) 13 (u.1 13 + 1)) 8 (u.1 8 + 1)) 23 (u.1 23 - 1)) 24 0 (u.2 24 1)) 25 0 (u.2 25 1)) 26 0 (u.2 26 1)
theorem wr_loop (b : Int32) : ∀ (n k : Nat) (u : ob_S), k < n → k ≤ 63 → k_X7_writes_80 b n (nI k) u = ew_ b (u.1, va_up u.2 14 (s1_ (u.2 14) k)) := by
  intro n
  induction n with
  | zero => intro k u h; omega
  | succ n ih =>
    intro k u h1 h2
    cases k with
    | zero =>
      have e : k_X7_writes_80 b (n + 1) (nI 0) u = ew_ b u := if_pos (by decide)
      rw [e, s1_0]
      have : va_up u.2 14 (u.2 14) = u.2 := by
        funext j
        by_cases q : j = 14
        · subst q; exact if_pos rfl
        · exact if_neg q
      rw [this]
    | succ k =>
      have c : ¬ nI (k + 1) ≤ 0 := nI_nle (by omega) (by omega)
      have e : k_X7_writes_80 b (n + 1) (nI (k + 1)) u = k_X7_writes_80 b n (nI k) (ob_a u 14 (k + 1) (u.2 14 k)) := (if_neg c).trans (by rw [nI_m, nI_p, tn_nI (by omega), tn_nI (by omega)])
      rw [e, ih k _ (by omega) (by omega)]
      show ew_ b (u.1, va_up (va_up u.2 14 (upd (u.2 14) (k + 1) (u.2 14 k))) 14 (s1_ (va_up u.2 14 (upd (u.2 14) (k + 1) (u.2 14 k)) 14) k)) = _
      rw [up_self, s1_s, bx_uu]
/-! make -/
theorem cl_loop : ∀ (n i : Nat) (u : ob_S), 64 < n + i → i ≤ 64 → k_X3_clear_30 n (nI i) u = f2_ u 0 1 i 64 65535 0 := by
  intro n
  induction n with
  | zero => intro i u h1 h2; omega
  | succ n ih =>
    intro i u h1 h2
    by_cases c : (64 : Int32) ≤ nI i
    · have e : k_X3_clear_30 (n + 1) (nI i) u = u := if_pos c
      rw [le64 (by omega)] at c
      rw [e, f2_e _ _ _ _ _ (by omega)]
    · have e : k_X3_clear_30 (n + 1) (nI i) u = k_X3_clear_30 n (nI (i + 1)) (ob_a (ob_a u 0 i 65535) 1 i 0) := (if_neg c).trans (by rw [nI_s, tn_nI (by omega)]; rfl)
      rw [le64 (by omega)] at c
      rw [e, ih (i + 1) _ (by omega) (by omega), f2_s u (by decide) _ _ (by omega)]
theorem mk_loop (x1 : Int32) : ∀ (n i : Nat) (u : ob_S), 64 < n + i → i ≤ 64 → k_X7_make_97 x1 n (nI i) u = (x1, f_X7_begins (ob_i (f2_ u 9 10 i 64 65535 0) 15 0)) := by
  intro n
  induction n with
  | zero => intro i u h1 h2; omega
  | succ n ih =>
    intro i u h1 h2
    by_cases c : (64 : Int32) ≤ nI i
    · have e : k_X7_make_97 x1 (n + 1) (nI i) u = (x1, f_X7_begins (ob_i u 15 0)) := if_pos c
      rw [le64 (by omega)] at c
      rw [e, f2_e _ _ _ _ _ (by omega)]
    · have e : k_X7_make_97 x1 (n + 1) (nI i) u = k_X7_make_97 x1 n (nI (i + 1)) (ob_a (ob_a u 9 i 65535) 10 i 0) := (if_neg c).trans (by rw [nI_s, tn_nI (by omega)])
      rw [le64 (by omega)] at c
      rw [e, ih (i + 1) _ (by omega) (by omega), f2_s u (by decide) _ _ (by omega)]
/-! counting -/
theorem has_nI {c : ob_S} {B i : Nat} (hB : B ≤ 64) (hc : c.1 4 = nI B) (hi : i < 2 ^ 31) : f_X3_has c (nI i) = if i < B then 1 else 0 := by
  have h1 : ¬ nI i < 0 := nI_pos hi
  by_cases h : i < B
  · rw [if_pos h]
    have h2 : ¬ c.1 4 ≤ nI i := by rw [hc, nl_t (by omega) hi]; omega
    exact (if_neg h1).trans (if_neg h2)
  · rw [if_neg h]
    have h2 : c.1 4 ≤ nI i := by rw [hc, nl_t (by omega) hi]; omega
    exact (if_neg h1).trans (if_pos h2)
theorem to_loop {c m : ob_S} {B : Nat} (hB : B ≤ 64) (h1 : c.1 4 = nI B) (h2 : m.1 3 = nI B) (h3 : c.2 1 = m.2 10) (h4 : ∀ i, m.2 10 i = 0 ∨ m.2 10 i = 1) : ∀ (n i : Nat) (x : Int32), i < 2 ^ 30 → k_X3_tornBlocks_4 c n x (nI i) = k_X7_blocksThat_4 m 1 n x (nI i) := by
  intro n
  induction n with
  | zero => intro i x _; rfl
  | succ n ih =>
    intro i x hi
    by_cases q : c.1 4 ≤ nI i
    · have e1 : k_X3_tornBlocks_4 c (n + 1) x (nI i) = x := if_pos q
      have e2 : k_X7_blocksThat_4 m 1 (n + 1) x (nI i) = x := if_pos (by rw [h2, ← h1]; exact q)
      rw [e1, e2]
    · have q2 : ¬ m.1 3 ≤ nI i := by rw [h2, ← h1]; exact q
      have e1 : k_X3_tornBlocks_4 c (n + 1) x (nI i) = k_X3_tornBlocks_4 c n (x + f_X6_asNumber (f_X3_isTorn c (nI i))) (nI (i + 1)) := (if_neg q).trans (by rw [nI_s])
      have e2 : k_X7_blocksThat_4 m 1 (n + 1) x (nI i) = k_X7_blocksThat_4 m 1 n (x + m.2 10 i) (nI (i + 1)) := (if_neg q2).trans ((if_neg (by decide)).trans (by rw [nI_s, tn_nI (by omega)]))
      rw [h1, nl_t (by omega) (by omega)] at q
      have e3 : f_X6_asNumber (f_X3_isTorn c (nI i)) = m.2 10 i := by
        have e4 : f_X3_has c (nI i) = 1 := by rw [has_nI hB h1 (by omega), if_pos (by omega)]
        have e5 : f_X3_isTorn c (nI i) = if m.2 10 i = 0 then 0 else 1 := by
          have e6 : ¬ f_X3_has c (nI i) = 0 := by rw [e4]; decide
          refine (if_neg e6).trans ?_
          rw [tn_nI (by omega), h3]
        rw [e5]
        rcases h4 i with z | z <;> rw [z] <;> rfl
      rw [e1, e2, e3]
      exact ih (i + 1) _ (by omega)
theorem fi_loop {c m : ob_S} {B : Nat} (hB : B ≤ 64) (h1 : c.1 4 = nI B) (h2 : m.1 3 = nI B) (h3 : c.2 0 = m.2 9) : ∀ (n i : Nat) (x : Int32), i < 2 ^ 30 → k_X3_filledBlocks_4 c n x (nI i) = k_X7_blocksThat_4 m 0 n x (nI i) := by
  intro n
  induction n with
  | zero => intro i x _; rfl
  | succ n ih =>
    intro i x hi
    by_cases q : c.1 4 ≤ nI i
    · have e1 : k_X3_filledBlocks_4 c (n + 1) x (nI i) = x := if_pos q
      have e2 : k_X7_blocksThat_4 m 0 (n + 1) x (nI i) = x := if_pos (by rw [h2, ← h1]; exact q)
      rw [e1, e2]
    · have q2 : ¬ m.1 3 ≤ nI i := by rw [h2, ← h1]; exact q
      have e1 : k_X3_filledBlocks_4 c (n + 1) x (nI i) = k_X3_filledBlocks_4 c n (x + f_X6_asNumber (if f_X3_contentOf c (nI i) = 65535 then 0 else 1)) (nI (i + 1)) := (if_neg q).trans (by rw [← nI_s])
      have e2 : k_X7_blocksThat_4 m 0 (n + 1) x (nI i) = k_X7_blocksThat_4 m 0 n (x + if m.2 9 i = 65535 then 0 else 1) (nI (i + 1)) := (if_neg q2).trans ((if_pos rfl).trans (by rw [← nI_s, tn_nI (by omega)]))
      rw [h1, nl_t (by omega) (by omega)] at q
      have e4 : f_X3_has c (nI i) = 1 := by rw [has_nI hB h1 (by omega), if_pos (by omega)]
      have e5 : f_X3_contentOf c (nI i) = m.2 9 i := by
        have e6 : ¬ f_X3_has c (nI i) = 0 := by rw [e4]; decide
        refine (if_neg e6).trans ?_
        rw [tn_nI (by omega), h3]
      have e3 : f_X6_asNumber (if f_X3_contentOf c (nI i) = 65535 then 0 else 1) = if m.2 9 i = 65535 then 0 else 1 := by
        rw [e5]
        split <;> rfl
      rw [e1, e2, e3]
      exact ih (i + 1) _ (by omega)
/-! checks -/
theorem ck_loop (b : Int32) : ∀ (n : Nat) (v i : Int32), k_X6_checkOfBits_6 b n v i = k_X7_checked_6 b n v i := by
  intro n
  induction n with
  | zero => intro v i; rfl
  | succ n ih =>
    intro v i
    unfold k_X6_checkOfBits_6 k_X7_checked_6
    split
    · rfl
    · exact ih _ _
theorem ck_eq (b l : Int32) : f_X6_checkOfBits b l = f_X7_checked b l := ck_loop b 23 0 (l - 1)
/-! ranges, told by both -/
theorem in_os {x a b : Int32} {A B : Int64} (hA : A.toInt = a.toInt) (hB : B.toInt = b.toInt) : (f_X7_in (Int32.toInt64 x) A B = 0) ↔ ¬ (f_X6_isOutside x a b = 0) := by
  constructor
  · intro h1 h2
    have h3 := os_t h2
    have h4 : ¬ f_X7_in (Int32.toInt64 x) A B = 0 := by
      have l1 : ¬ lg_cmp (Int32.toInt64 x) A < 0 := by
        rw [lg_cmp_lt, Int64.lt_iff_toInt_lt, Int32.toInt_toInt64, hA]; omega
      have l2 : ¬ 0 < lg_cmp (Int32.toInt64 x) B := by
        rw [lg_cmp_gt, Int64.lt_iff_toInt_lt, Int32.toInt_toInt64, hB]; omega
      have e : f_X7_in (Int32.toInt64 x) A B = 1 := (if_neg l1).trans (if_neg l2)
      rw [e]; decide
    exact h4 h1
  · intro h
    by_cases q : f_X7_in (Int32.toInt64 x) A B = 0
    · exact q
    · exfalso
      have h3 := in_t q
      rw [Int32.toInt_toInt64, hA, hB] at h3
      apply h
      have c1 : ¬ x < a := by rw [Int32.lt_iff_toInt_lt]; omega
      have c2 : x ≤ b := by rw [Int32.le_iff_toInt_le]; omega
      exact (if_neg c1).trans (if_pos c2)
theorem in_yes {x a b : Int32} {A B : Int64} (hA : A.toInt = a.toInt) (hB : B.toInt = b.toInt) (h : f_X6_isOutside x a b = 0) : ¬ f_X7_in (Int32.toInt64 x) A B = 0 := fun q => (in_os hA hB).mp q h
theorem in_no {x a b : Int32} {A B : Int64} (hA : A.toInt = a.toInt) (hB : B.toInt = b.toInt) (h : ¬ f_X6_isOutside x a b = 0) : f_X7_in (Int32.toInt64 x) A B = 0 := (in_os hA hB).mpr h
