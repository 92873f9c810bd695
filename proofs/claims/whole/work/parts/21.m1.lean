/-! Loops over the rows: forgets and dropWritten -/
theorem nl_t {a b : Nat} (ha : a < 2 ^ 31) (hb : b < 2 ^ 31) : nI a ≤ nI b ↔ a ≤ b := nI_leI ha hb
theorem le64 {k : Nat} (h : k < 2 ^ 31) : ((64 : Int32) ≤ nI k) ↔ 64 ≤ k := nI_leI (a := 64) (by decide) h
theorem fo_loop (b : Int32) (f0 : Nat → Int32) (len : Nat) (hlen : len ≤ 64) : ∀ (n a k : Nat) (u : ob_S), len < n + k → a ≤ k → k ≤ len → u.1 13 = nI len → pr_ (u.2 14) a = (pr_ f0 k).filter (fun x => decide (x ≠ b)) → (∀ i, k ≤ i → u.2 14 i = f0 i) →
    ∃ a', (k_X7_forgets_4 b n (nI a) (nI k) u).1 13 = nI a' ∧ a' ≤ len ∧ pr_ ((k_X7_forgets_4 b n (nI a) (nI k) u).2 14) a' = (pr_ f0 len).filter (fun x => decide (x ≠ b)) ∧ ∀ j, j ≠ 14 → (k_X7_forgets_4 b n (nI a) (nI k) u).2 j = u.2 j := by
  intro n
  induction n with
  | zero => intro a k u h1 h2 h3; omega
  | succ n ih =>
    intro a k u h1 h2 h3 hu hp hr
    by_cases c : u.1 13 ≤ nI k
    · have e : k_X7_forgets_4 b (n + 1) (nI a) (nI k) u = ob_i u 13 (nI a) := if_pos c
      rw [e]
      rw [hu, nl_t (by omega) (by omega)] at c
      have ek : k = len := by omega
      subst ek
      exact ⟨a, rfl, h2, hp, fun _ _ => rfl⟩
    · have ck := c
      rw [hu, nl_t (by omega) (by omega)] at ck
      have ef : u.2 14 (Int32.toNatClampNeg (nI k)) = f0 k := by rw [tn_nI (by omega)]; exact hr k (Nat.le_refl k)
      by_cases d : u.2 14 (Int32.toNatClampNeg (nI k)) = b
      · have e : k_X7_forgets_4 b (n + 1) (nI a) (nI k) u = k_X7_forgets_4 b n (nI a) (nI (k + 1)) u := (if_neg c).trans ((if_pos d).trans (by rw [nI_s]))
        rw [e]
        refine ih a (k + 1) u (by omega) (by omega) (by omega) hu ?_ (fun i hi => hr i (by omega))
        rw [hp, pr_s, List.filter_append]
        have : f0 k = b := ef.symm.trans d
        simp [this]
      · have e : k_X7_forgets_4 b (n + 1) (nI a) (nI k) u = k_X7_forgets_4 b n (nI (a + 1)) (nI (k + 1)) (ob_a u 14 a (f0 k)) := (if_neg c).trans ((if_neg d).trans (by rw [nI_s, nI_s, ef, tn_nI (k := a) (by omega)]))
        rw [e]
        obtain ⟨a', q1, q2, q3, q4⟩ := ih (a + 1) (k + 1) (ob_a u 14 a (f0 k)) (by omega) (by omega) (by omega) hu (by
          show pr_ (upd (u.2 14) a (f0 k)) (a + 1) = _
          rw [pr_s, pr_upd (Nat.le_refl a), pk_us, hp, pr_s, List.filter_append]
          have : ¬ f0 k = b := fun q => d (ef.trans q)
          simp [this]) (fun i hi => by
          show upd (u.2 14) a (f0 k) i = f0 i
          rw [pk_un (by omega)]
          exact hr i (by omega))
        exact ⟨a', q1, q2, q3, fun j hj => (q4 j hj).trans (if_neg hj)⟩
theorem fo_spec (u : ob_S) (b : Int32) {len : Nat} (hlen : len ≤ 64) (hu : u.1 13 = nI len) : ∃ a, (f_X7_forgets u b).1 13 = nI a ∧ a ≤ len ∧ pr_ ((f_X7_forgets u b).2 14) a = (pr_ (u.2 14) len).filter (fun x => decide (x ≠ b)) ∧ (∀ j, j ≠ 14 → (f_X7_forgets u b).2 j = u.2 j) ∧ ∀ j, j ≠ 13 → (f_X7_forgets u b).1 j = u.1 j := by
  obtain ⟨a, h1, h2, h3, h4⟩ := fo_loop b (u.2 14) len hlen 65 0 0 u (by omega) (by omega) (by omega) hu rfl (fun _ _ => rfl)
  exact ⟨a, h1, h2, h3, h4, fun j hj => kf_k b j hj 65 0 0 u⟩
/-- what is left of the written ones, outside a stretch -/
def q_ (a b x : Int32) : Bool := decide (x < a ∨ ¬ x < b)
theorem kd_k (a b : Int32) (k : Nat) (hk : k ≠ 3) : ∀ (n : Nat) (x3 x4 : Int32) (u : ob_S), (k_X3_dropWritten_5 a b n x3 x4 u).1 k = u.1 k := by
  intro n
  induction n with
  | zero => intro x3 x4 u; rfl
  | succ n ih =>
    intro x3 x4 u
    unfold k_X3_dropWritten_5
    repeat' split
    all_goals first | exact if_neg hk | (rw [ih]; rfl) | rw [ih]
theorem dr_loop (a b : Int32) (f0 : Nat → Int32) (len : Nat) (hlen : len ≤ 64) : ∀ (n i k : Nat) (u : ob_S), len < n + k → i ≤ k → k ≤ len → u.1 3 = nI len → pr_ (u.2 2) i = (pr_ f0 k).filter (q_ a b) → (∀ j, k ≤ j → u.2 2 j = f0 j) →
    ∃ i', (k_X3_dropWritten_5 a b n (nI i) (nI k) u).1 3 = nI i' ∧ i' ≤ len ∧ pr_ ((k_X3_dropWritten_5 a b n (nI i) (nI k) u).2 2) i' = (pr_ f0 len).filter (q_ a b) ∧ ∀ j, j ≠ 2 → (k_X3_dropWritten_5 a b n (nI i) (nI k) u).2 j = u.2 j := by
  intro n
  induction n with
  | zero => intro i k u h1 h2 h3; omega
  | succ n ih =>
    intro i k u h1 h2 h3 hu hp hr
    by_cases c : u.1 3 ≤ nI k
    · have e : k_X3_dropWritten_5 a b (n + 1) (nI i) (nI k) u = ob_i u 3 (nI i) := if_pos c
      rw [e]
      rw [hu, nl_t (by omega) (by omega)] at c
      have ek : k = len := by omega
      subst ek
      exact ⟨i, rfl, h2, hp, fun _ _ => rfl⟩
    · have ck := c
      rw [hu, nl_t (by omega) (by omega)] at ck
      have c2 : ¬ (64 : Int32) ≤ nI k := by rw [le64 (by omega)]; omega
      have ef : u.2 2 (Int32.toNatClampNeg (nI k)) = f0 k := by rw [tn_nI (by omega)]; exact hr k (Nat.le_refl k)
      have keep : ∀ (hq : q_ a b (f0 k) = true), k_X3_dropWritten_5 a b (n + 1) (nI i) (nI k) u = k_X3_dropWritten_5 a b n (nI (i + 1)) (nI (k + 1)) (ob_a u 2 i (f0 k)) → ∃ i', (k_X3_dropWritten_5 a b (n + 1) (nI i) (nI k) u).1 3 = nI i' ∧ i' ≤ len ∧ pr_ ((k_X3_dropWritten_5 a b (n + 1) (nI i) (nI k) u).2 2) i' = (pr_ f0 len).filter (q_ a b) ∧ ∀ j, j ≠ 2 → (k_X3_dropWritten_5 a b (n + 1) (nI i) (nI k) u).2 j = u.2 j := by
        intro hq e
        rw [e]
        obtain ⟨i', q1, q2, q3, q4⟩ := ih (i + 1) (k + 1) (ob_a u 2 i (f0 k)) (by omega) (by omega) (by omega) hu (by
          show pr_ (upd (u.2 2) i (f0 k)) (i + 1) = _
          rw [pr_s, pr_upd (Nat.le_refl i), pk_us, hp, pr_s, List.filter_append]
          simp [hq]) (fun j hj => by
          show upd (u.2 2) i (f0 k) j = f0 j
          rw [pk_un (by omega)]
          exact hr j (by omega))
        exact ⟨i', q1, q2, q3, fun j hj => (q4 j hj).trans (if_neg hj)⟩
      by_cases d : u.2 2 (Int32.toNatClampNeg (nI k)) < a
      · exact keep (by rw [ef] at d; simp [q_, d]) ((if_neg c).trans ((if_neg c2).trans ((if_pos d).trans (by rw [nI_s, nI_s, ef, tn_nI (k := i) (by omega)]))))
      · by_cases d2 : u.2 2 (Int32.toNatClampNeg (nI k)) < b
        · have e : k_X3_dropWritten_5 a b (n + 1) (nI i) (nI k) u = k_X3_dropWritten_5 a b n (nI i) (nI (k + 1)) u := (if_neg c).trans ((if_neg c2).trans ((if_neg d).trans ((if_pos d2).trans (by rw [nI_s]))))
          rw [e]
          refine ih i (k + 1) u (by omega) (by omega) (by omega) hu ?_ (fun j hj => hr j (by omega))
          rw [hp, pr_s, List.filter_append]
          rw [ef] at d d2
          simp [q_, d, d2]
        · exact keep (by rw [ef] at d2; simp [q_, d2]) ((if_neg c).trans ((if_neg c2).trans ((if_neg d).trans ((if_neg d2).trans (by rw [nI_s, nI_s, ef, tn_nI (k := i) (by omega)])))))
theorem dr_spec (u : ob_S) (a b : Int32) {len : Nat} (hlen : len ≤ 64) (hu : u.1 3 = nI len) : ∃ i, (f_X3_dropWritten u a b).1 3 = nI i ∧ i ≤ len ∧ pr_ ((f_X3_dropWritten u a b).2 2) i = (pr_ (u.2 2) len).filter (q_ a b) ∧ (∀ j, j ≠ 2 → (f_X3_dropWritten u a b).2 j = u.2 j) ∧ ∀ j, j ≠ 3 → (f_X3_dropWritten u a b).1 j = u.1 j := by
  obtain ⟨i, h1, h2, h3, h4⟩ := dr_loop a b (u.2 2) len hlen 65 0 0 u (by omega) (by omega) (by omega) hu rfl (fun _ _ => rfl)
  exact ⟨i, h1, h2, h3, h4, fun j hj => kd_k a b j hj 65 0 0 u⟩
/-! blank, tear, a group -/
theorem fl_e (f : Nat → Int32) {a b : Nat} (x : Int32) (h : b ≤ a) : fl_ f a b x = f := by
  funext i; exact if_neg (by omega)
theorem fl_up (f : Nat → Int32) {a b : Nat} (x : Int32) (h : a < b) : fl_ (upd f a x) (a + 1) b x = fl_ f a b x := by
  funext i
  simp only [upd, fl_]
  by_cases e : i = a
  · subst e
    rw [if_neg (by omega), if_pos rfl, if_pos (by omega)]
  · by_cases q : a + 1 ≤ i ∧ i < b
    · rw [if_pos q, if_pos (by omega)]
    · rw [if_neg q, if_neg e, if_neg (by omega)]
/-- two arrays of a state are filled -/
def f2_ (u : ob_S) (k1 k2 a b : Nat) (x y : Int32) : ob_S := (u.1, fun j => if j = k1 then fl_ (u.2 k1) a b x else if j = k2 then fl_ (u.2 k2) a b y else u.2 j)
theorem f2_e (u : ob_S) (k1 k2 : Nat) {a b : Nat} (x y : Int32) (h : b ≤ a) : f2_ u k1 k2 a b x y = u := by
  have : (fun j => if j = k1 then fl_ (u.2 k1) a b x else if j = k2 then fl_ (u.2 k2) a b y else u.2 j) = u.2 := by
    funext j
    split
    · rename_i e; rw [fl_e _ _ h, e]
    · split
      · rename_i e; rw [fl_e _ _ h, e]
      · rfl
  unfold f2_
  rw [this]
theorem f2_s (u : ob_S) {k1 k2 : Nat} (hk : k1 ≠ k2) {a b : Nat} (x y : Int32) (h : a < b) : f2_ (ob_a (ob_a u k1 a x) k2 a y) k1 k2 (a + 1) b x y = f2_ u k1 k2 a b x y := by
  unfold f2_ ob_a
  congr 1
  funext j
  by_cases e1 : j = k1
  · subst e1
    simp only [if_pos, va_up, if_neg hk]
    exact fl_up _ _ h
  · by_cases e2 : j = k2
    · subst e2
      simp only [if_neg e1, if_pos, va_up, if_neg (Ne.symm hk)]
      exact fl_up _ _ h
    · simp only [if_neg e1, if_neg e2, va_up]
theorem bl_loop (a t : Int32) (e : Nat) (he : e ≤ 64) : ∀ (n i : Nat) (u : ob_S), e < n + i → 0 < n → i < 2 ^ 30 → k_X3_blank_19 a t (nI e) n (nI i) u = f_X3_dropWritten (f2_ u 0 1 i e 65535 (vp_nar .boolean t)) a (nI e) := by
  intro n
  induction n with
  | zero => intro i u h1 h2; omega
  | succ n ih =>
    intro i u h1 h2 h3
    by_cases c : nI e ≤ nI i
    · have e1 : k_X3_blank_19 a t (nI e) (n + 1) (nI i) u = f_X3_dropWritten u a (nI e) := if_pos c
      rw [nl_t (by omega) (by omega)] at c
      rw [e1, f2_e _ _ _ _ _ c]
    · have e1 : k_X3_blank_19 a t (nI e) (n + 1) (nI i) u = k_X3_blank_19 a t (nI e) n (nI (i + 1)) (ob_a (ob_a u 0 i 65535) 1 i (vp_nar .boolean t)) := (if_neg c).trans (by rw [nI_s, tn_nI (by omega)])
      rw [nl_t (by omega) (by omega)] at c
      rw [e1, ih (i + 1) _ (by omega) (by omega) (by omega), f2_s u (by decide) _ _ (by omega)]
theorem mn_nI {a b : Nat} (ha : a < 2 ^ 31) (hb : b < 2 ^ 31) : (if nI b < nI a then nI b else nI a) = nI (min b a) := by
  by_cases c : b < a
  · rw [if_pos ((nI_ltI hb ha).mpr c), Nat.min_eq_left (by omega)]
  · rw [if_neg (fun h => c ((nI_ltI hb ha).mp h)), Nat.min_eq_right (by omega)]
theorem mx_nI {a : Nat} (ha : a < 2 ^ 31) : (if (0 : Int32) < nI a then nI a else 0) = nI a := by
  by_cases c : 0 < a
  · exact if_pos ((nI_ltI (a := 0) (by decide) ha).mpr c)
  · have : a = 0 := by omega
    subst this
    rfl
theorem bl_spec (u : ob_S) {a l B : Nat} (t : Int32) (hB : B ≤ 64) (hu : u.1 4 = nI B) (ha : a < 2 ^ 29) (hl : l < 2 ^ 29) : f_X3_blank u (nI a) (nI l) t = f_X3_dropWritten (f2_ u 0 1 a (min B (a + l)) 65535 (vp_nar .boolean t)) (nI a) (nI (min B (a + l))) := by
  show k_X3_blank_19 (nI a) t (if (u.1 4) < (nI a + nI l) then (u.1 4) else (nI a + nI l)) 65 (if 0 < nI a then nI a else 0) u = _
  rw [hu, nI_add, mn_nI (by omega) (by omega), mx_nI (by omega)]
  exact bl_loop (nI a) t (min B (a + l)) (by omega) 65 a u (by omega) (by decide) (by omega)
/-! the model's own -/
theorem em_spec (u : ob_S) {i len : Nat} (t : Int32) (hi : i < 2 ^ 31) (hlen : len ≤ 64) (hu : u.1 13 = nI len) : ∃ a, (f_X7_empties u (nI i) t).1 13 = nI a ∧ a ≤ len ∧ pr_ ((f_X7_empties u (nI i) t).2 14) a = (pr_ (u.2 14) len).filter (fun x => decide (x ≠ nI i)) ∧ (∀ j, j ≠ 14 → (f_X7_empties u (nI i) t).2 j = (ob_a (ob_a u 9 i 65535) 10 i t).2 j) ∧ ∀ j, j ≠ 13 → (f_X7_empties u (nI i) t).1 j = u.1 j := by
  have e : f_X7_empties u (nI i) t = f_X7_forgets (ob_a (ob_a u 9 i 65535) 10 i t) (nI i) := by
    show f_X7_forgets (ob_a (ob_a u 9 (Int32.toNatClampNeg (nI i)) 65535) 10 (Int32.toNatClampNeg (nI i)) t) (nI i) = _
    rw [tn_nI hi]
  rw [e]
  exact fo_spec (ob_a (ob_a u 9 i 65535) 10 i t) (nI i) hlen hu
theorem q_all {a b : Nat} (ha : a < 2 ^ 31) (hb : b < 2 ^ 31) (h : b ≤ a) (L : List Int32) : L.filter (q_ (nI a) (nI b)) = L := by
  apply List.filter_eq_self.mpr
  intro x _
  simp only [q_, decide_eq_true_eq]
  by_cases c : x < nI a
  · exact Or.inl c
  · right
    intro d
    have h1 := nlt_t c
    have h2 := lt_t d
    rw [nI_toInt ha] at h1
    rw [nI_toInt hb] at h2
    omega
theorem q_step {a b : Nat} (hb : b < 2 ^ 31) (h : a < b) (L : List Int32) : (L.filter (fun x => decide (x ≠ nI a))).filter (q_ (nI (a + 1)) (nI b)) = L.filter (q_ (nI a) (nI b)) := by
  rw [List.filter_filter]
  apply List.filter_congr
  intro x _
  simp only [q_, ← Bool.decide_and, decide_eq_decide, Int32.lt_iff_toInt_lt, ← Int32.toInt_inj, ne_eq]
  rw [nI_toInt (by omega), nI_toInt (by omega), nI_toInt (by omega)]
  omega
theorem ge_loop (g t : Int32) (E B : Nat) (hE : E < 2 ^ 30) (hB : B ≤ 64) : ∀ (n i len : Nat) (u : ob_S), min E B < n + i → 0 < n → i < 2 ^ 30 → len ≤ 64 → (g + 1) * u.1 4 = nI E → u.1 3 = nI B → u.1 13 = nI len →
    ∃ a, (k_X7_groupEmpties_7 g t n (nI i) u).1 13 = nI a ∧ a ≤ len ∧ pr_ ((k_X7_groupEmpties_7 g t n (nI i) u).2 14) a = (pr_ (u.2 14) len).filter (q_ (nI i) (nI (min E B))) ∧ (∀ j, j ≠ 14 → (k_X7_groupEmpties_7 g t n (nI i) u).2 j = (f2_ u 9 10 i (min E B) 65535 t).2 j) ∧ ∀ j, j ≠ 13 → (k_X7_groupEmpties_7 g t n (nI i) u).1 j = u.1 j := by
  intro n
  induction n with
  | zero => intro i len u h1 h2; omega
  | succ n ih =>
    intro i len u h1 h2 h3 hlen hE2 hB2 hu
    have stop : min E B ≤ i → k_X7_groupEmpties_7 g t (n + 1) (nI i) u = u → ∃ a, (k_X7_groupEmpties_7 g t (n + 1) (nI i) u).1 13 = nI a ∧ a ≤ len ∧ pr_ ((k_X7_groupEmpties_7 g t (n + 1) (nI i) u).2 14) a = (pr_ (u.2 14) len).filter (q_ (nI i) (nI (min E B))) ∧ (∀ j, j ≠ 14 → (k_X7_groupEmpties_7 g t (n + 1) (nI i) u).2 j = (f2_ u 9 10 i (min E B) 65535 t).2 j) ∧ ∀ j, j ≠ 13 → (k_X7_groupEmpties_7 g t (n + 1) (nI i) u).1 j = u.1 j := by
      intro hi e
      rw [e, f2_e _ _ _ _ _ hi, q_all (by omega) (by omega) hi]
      exact ⟨len, hu, Nat.le_refl _, rfl, fun _ _ => rfl, fun _ _ => rfl⟩
    by_cases c : (g + 1) * u.1 4 ≤ nI i
    · refine stop ?_ (if_pos c)
      rw [hE2, nl_t (by omega) (by omega)] at c
      omega
    · by_cases c2 : u.1 3 ≤ nI i
      · refine stop ?_ ((if_neg c).trans (if_pos c2))
        rw [hB2, nl_t (by omega) (by omega)] at c2
        omega
      · have e : k_X7_groupEmpties_7 g t (n + 1) (nI i) u = k_X7_groupEmpties_7 g t n (nI (i + 1)) (f_X7_empties u (nI i) t) := (if_neg c).trans ((if_neg c2).trans (by rw [← nI_s]))
        have hiE : i < min E B := by
          rw [hE2, nl_t (by omega) (by omega)] at c
          rw [hB2, nl_t (by omega) (by omega)] at c2
          omega
        obtain ⟨a1, p1, p2, p3, p4, p5⟩ := em_spec u (i := i) t (by omega) hlen hu
        obtain ⟨a2, r1, r2, r3, r4, r5⟩ := ih (i + 1) a1 (f_X7_empties u (nI i) t) (by omega) (by omega) (by omega) (by omega) (by rw [p5 4 (by decide)]; exact hE2) (by rw [p5 3 (by decide)]; exact hB2) p1
        rw [e]
        refine ⟨a2, r1, by omega, ?_, ?_, fun j hj => (r5 j hj).trans (p5 j hj)⟩
        · rw [r3, p3, q_step (by omega) hiE]
        · intro j hj
          rw [r4 j hj, ← f2_s u (by decide) 65535 t hiE]
          show (if j = 9 then fl_ ((f_X7_empties u (nI i) t).2 9) (i + 1) (min E B) 65535 else if j = 10 then fl_ ((f_X7_empties u (nI i) t).2 10) (i + 1) (min E B) t else (f_X7_empties u (nI i) t).2 j) = (if j = 9 then fl_ ((ob_a (ob_a u 9 i 65535) 10 i t).2 9) (i + 1) (min E B) 65535 else if j = 10 then fl_ ((ob_a (ob_a u 9 i 65535) 10 i t).2 10) (i + 1) (min E B) t else (ob_a (ob_a u 9 i 65535) 10 i t).2 j)
          rw [p4 9 (by decide), p4 10 (by decide), p4 j hj]
