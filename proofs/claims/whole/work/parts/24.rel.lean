/-! The card and the reference, side by side -/
/-- a block that there is -/
def iB_ (m : ob_S) (x : Int32) : Prop := 0 ≤ x.toInt ∧ x.toInt < (m.1 3).toInt
def rL_at (c m : ob_S) : Prop := ∃ n : Nat, n ≤ 64 ∧ c.1 3 = nI n ∧ m.1 13 = nI n ∧ pr_ (c.2 2) n = pr_ (m.2 14) n ∧ (pr_ (m.2 14) n).Nodup ∧ ∀ x ∈ pr_ (m.2 14) n, iB_ m x
def rM_ (c m : ob_S) : Prop := (∃ B : Nat, 4 ≤ B ∧ B ≤ 64 ∧ c.1 4 = nI B ∧ m.1 3 = nI B) ∧ (∃ G : Nat, 1 ≤ G ∧ G ≤ 8 ∧ c.1 5 = nI G ∧ m.1 4 = nI G) ∧ c.2 0 = m.2 9 ∧ c.2 1 = m.2 10 ∧ (∀ i, m.2 10 i = 0 ∨ m.2 10 i = 1) ∧ rL_at c m
def rT_ (c m : ob_S) : Prop := ∃ n : Nat, n ≤ 200 ∧ c.1 1 = nI n ∧ m.1 0 = nI n ∧ pr_ (c.2 0) n = pr_ (m.2 1) n
def rW_ (c m : ob_S) : Prop := ∃ n : Nat, n ≤ 8 ∧ c.1 1 = nI n ∧ m.1 11 = nI n ∧ pr_ (c.2 0) n = pr_ (m.2 12) n ∧ (¬ m.1 21 = 0 → 0 < n)
def rQ_ (c m : ob_S) : Prop := c.1 2 = m.1 23 ∧ ((m.1 23 = 0 ∧ c.1 3 = 0) ∨ (m.1 23 = 1 ∧ c.1 3 = m.2 26 0 ∧ c.2 0 0 = m.2 24 0 ∧ c.2 1 0 = m.2 25 0 ∧ iB_ m (m.2 24 0)) ∨ (m.1 23 = 2 ∧ (c.1 3 = m.2 26 0 ∧ c.2 0 0 = m.2 24 0 ∧ c.2 1 0 = m.2 25 0 ∧ iB_ m (m.2 24 0)) ∧ (m.2 26 1 = 0 ∧ c.2 0 1 = m.2 24 1 ∧ c.2 1 1 = m.2 25 1 ∧ iB_ m (m.2 24 1))))
def rE_ (c m : ob_S) : Prop := c.1 0 = m.1 32 ∧ (m.1 32 = 0 ∨ (m.1 32 = 1 ∧ c.1 1 = m.1 33 ∧ iB_ m (m.1 33)) ∨ (m.1 32 = 2 ∧ c.1 1 = m.1 33 ∧ c.1 2 = m.1 34 ∧ iB_ m (m.1 33) ∧ iB_ m (m.1 34) ∧ (m.1 33).toInt ≤ (m.1 34).toInt)) ∧ c.1 4 = m.1 28 ∧ c.1 5 = m.1 29 ∧ (m.1 29 = 0 ∨ m.1 29 = 1) ∧ (0 ≤ (m.1 28).toInt ∧ 0 ≤ (m.1 27).toInt ∧ (m.1 27).toInt + (m.1 28).toInt ≤ 64) ∧ (0 < (m.1 28).toInt → c.1 3 = m.1 27)
def rS_ (c m : ob_S) : Prop := c.1 1 = m.1 35 ∧ c.1 4 = m.1 37 ∧ (m.1 37 = 0 ∨ m.1 37 = 1) ∧ ((c.1 3 = 0 ∧ m.1 36 = -4) ∨ (c.1 3 = 1 ∧ c.1 2 = m.1 36 ∧ 0 ≤ (m.1 36).toInt)) ∧ ((m.1 30 = -4 ∧ c.1 0 = 0) ∨ (c.1 0 = m.1 30 ∧ 0 ≤ (m.1 30).toInt))
def rK_ (c m : ob_S) : Prop := c.1 0 = m.1 18 ∧ c.1 1 = m.1 19 ∧ c.1 2 = m.1 20 ∧ (0 ≤ (m.1 18).toInt ∧ (m.1 18).toInt < 3) ∧ (0 ≤ (m.1 19).toInt ∧ (m.1 19).toInt < 4) ∧ (0 ≤ (m.1 20).toInt ∧ (m.1 20).toInt < 16)
def rO_ (c m : ob_S) : Prop := c.1 7 = m.1 5 ∧ c.1 8 = m.1 6 ∧ c.1 9 = m.1 8 ∧ c.1 10 = m.1 7 ∧ c.1 11 = m.1 2 ∧ (0 ≤ (m.1 2).toInt ∧ (m.1 2).toInt < 16) ∧ c.1 13 = m.1 17 ∧ c.1 14 = m.1 22 ∧ c.1 15 = m.1 31 ∧ ((m.1 15 = 0 ∧ c.1 12 = -1 ∧ c.1 16 = 0) ∨ (m.1 15 = 1 ∧ c.1 12 = m.1 16 ∧ c.1 16 = m.1 21)) ∧ (m.1 21 = 0 ∨ m.1 21 = 1)
def rX_ (m : ob_S) : Prop := (∃ s : Nat, s < 8 ∧ m.1 16 = nI s) ∧ (m.1 15 = 0 → m.1 16 = 0) ∧ (m.1 23 = 0 ∨ m.1 16 = 6 ∨ m.1 16 = 7) ∧ (m.1 16 = 5 ∨ m.1 16 = 6 → 0 ≤ (m.1 35).toInt ∧ (m.1 35).toInt ≤ 64) ∧ (m.1 16 = 5 → (m.1 35).toInt < (m.1 3).toInt) ∧ (m.1 16 = 5 ∨ m.1 16 = 6 → m.1 36 = -4 ∨ 1 ≤ (m.1 36).toInt)
def rA_ (c : cd_S) (m : ob_S) : Prop := rM_ (c 1) m ∧ rT_ (c 2) m ∧ rW_ (c 3) m ∧ rQ_ (c 4) m ∧ rE_ (c 5) m ∧ rS_ (c 6) m ∧ rK_ (c 7) m ∧ rO_ (c 0) m ∧ rX_ m
/-- equal answers, and side by side again -/
def eq_ (x : Int32 × cd_S) (y : Int32 × ob_S) : Prop := x.1 = y.1 ∧ rA_ x.2 y.2
theorem rX_of {m : ob_S} {s : Nat} (hs : m.1 16 = nI s) (h8 : s < 8) (h5 : s ≠ 5) (h6 : s ≠ 6) (hon : m.1 15 = 0 → s = 0) (hq : m.1 23 = 0 ∨ s = 7) : rX_ m := by
  have n5 : ¬ m.1 16 = 5 := by rw [hs]; exact fun h => h5 ((nI_eq (b := 5) (by omega) (by decide)).mp h)
  have n6 : ¬ m.1 16 = 6 := by rw [hs]; exact fun h => h6 ((nI_eq (b := 6) (by omega) (by decide)).mp h)
  refine ⟨⟨s, h8, hs⟩, fun h => by rw [hs, hon h]; rfl, ?_, fun h => ?_, fun h => absurd h n5, fun h => ?_⟩
  · rcases hq with q | q
    · exact Or.inl q
    · right; right; rw [hs, q]; rfl
  · rcases h with h | h
    · exact absurd h n5
    · exact absurd h n6
  · rcases h with h | h
    · exact absurd h n5
    · exact absurd h n6
/-- powered: what that says -/
theorem on_of {c : cd_S} {m : ob_S} (h : rA_ c m) (hon : ¬ m.1 15 = 0) : m.1 15 = 1 ∧ (c 0).1 12 = m.1 16 ∧ (c 0).1 16 = m.1 21 := by
  obtain ⟨_, _, _, _, _, _, _, hO, _⟩ := h
  rcases hO.2.2.2.2.2.2.2.2.2.1 with q | q
  · exact absurd q.1 hon
  · exact q
theorem st_of {c : cd_S} {m : ob_S} (h : rA_ c m) : ∃ s : Nat, s < 8 ∧ m.1 16 = nI s := h.2.2.2.2.2.2.2.2.1
/-- the card's own word for power -/
theorem pw_eq {c : cd_S} {m : ob_S} (h : rA_ c m) : f_X6_isPowered c = m.1 15 := by
  obtain ⟨s, hs8, hs⟩ := st_of h
  obtain ⟨_, _, _, _, _, _, _, hO, _⟩ := h
  rcases hO.2.2.2.2.2.2.2.2.2.1 with q | q
  · rw [q.1]
    exact if_pos q.2.1
  · rw [q.1]
    refine if_neg ?_
    rw [q.2.1, hs]
    intro e
    have := congrArg Int32.toInt e
    rw [nI_toInt (by omega)] at this
    have e2 : (-1 : Int32).toInt = -1 := by decide
    omega
theorem win_of {c : cd_S} {m : ob_S} (h : rA_ c m) : f_X2_isInWindow (c 7) ((c 0).1 11) = f_X7_isInWindow m := by
  obtain ⟨_, _, _, _, _, _, hK, hO, _⟩ := h
  exact win_eq hK.2.1 hK.2.2.1 hO.2.2.2.2.1 hK.2.2.2.2.2 hK.2.2.2.2.1 hO.2.2.2.2.2.1
/-! The single calls that need no command -/
theorem T_warm {c : cd_S} {m : ob_S} (h : rA_ c m) (x : Int32) : eq_ (f_X6_warm c x) (f_X7_warm m x) := by
  obtain ⟨hM, hT, hW, hQ, hE, hS, hK, hO, hX⟩ := id h
  by_cases d : f_X6_isOutside x 0 15 = 0
  · have e1 : f_X6_warm c x = ((c 0).1 11, cd_i c 11 x) := if_pos d
    have e2 : f_X7_warm m x = (m.1 2, ob_i m 2 x) := if_neg (in_yes (by decide) (by decide) d)
    rw [e1, e2]
    have hx := os_t d
    have a0 : (0 : Int32).toInt = 0 := by decide
    have a1 : (15 : Int32).toInt = 15 := by decide
    obtain ⟨o1, o2, o3, o4, o5, o6, o7, o8, o9, o10, o11⟩ := hO
    exact ⟨o5, hM, hT, hW, hQ, hE, hS, hK, ⟨o1, o2, o3, o4, rfl, ⟨by show 0 ≤ x.toInt; omega, by show x.toInt < 16; omega⟩, o7, o8, o9, o10, o11⟩, hX⟩
  · have e1 : f_X6_warm c x = (-1, c) := if_neg d
    have e2 : f_X7_warm m x = (-1, m) := if_pos (in_no (by decide) (by decide) d)
    rw [e1, e2]
    exact ⟨rfl, h⟩
theorem T_write {c : cd_S} {m : ob_S} (h : rA_ c m) (x : Int32) : eq_ (f_X6_write c x) (f_X7_write m x) := by
  obtain ⟨hM, hT, hW, hQ, hE, hS, hK, hO, hX⟩ := id h
  by_cases d : f_X6_isOutside x 32 126 = 0
  · obtain ⟨n, n1, n2, n3, n4⟩ := hT
    have a1 : ¬ (c 2).1 1 < 0 := by rw [n2]; exact nI_pos (by omega)
    by_cases q : n = 200
    · have a2 : ¬ (c 2).1 1 < Int32.ofNat 200 := by rw [n2, q]; decide
      have e0 : f_X1_append 200 (c 2) x = (0, c 2) := (if_neg a1).trans (if_neg a2)
      have e1 : f_X6_write c x = (-3, va_up c 2 (c 2)) := (if_pos d).trans (by rw [e0]; rfl)
      have e2 : f_X7_write m x = (-3, m) := (if_neg (in_yes (by decide) (by decide) d)).trans (if_pos (by rw [n3, q]; rfl))
      rw [e1, e2]
      exact ⟨rfl, hM, ⟨n, n1, n2, n3, n4⟩, hW, hQ, hE, hS, hK, hO, hX⟩
    · have a2 : (c 2).1 1 < Int32.ofNat 200 := by rw [n2]; exact nI_lt (by omega) (by omega)
      have e0 : f_X1_append 200 (c 2) x = (1, ob_i (ob_a (c 2) 0 n x) 1 (nI (n + 1))) := (if_neg a1).trans ((if_pos a2).trans (by rw [n2, tn_nI (by omega), nI_s]))
      have e1 : f_X6_write c x = (nI (n + 1), va_up c 2 (ob_i (ob_a (c 2) 0 n x) 1 (nI (n + 1)))) := (if_pos d).trans (by rw [e0]; rfl)
      have e2 : f_X7_write m x = (nI (n + 1), ob_i (ob_a m 1 n x) 0 (nI (n + 1))) := (if_neg (in_yes (by decide) (by decide) d)).trans ((if_neg (by rw [n3]; exact fun z => q ((nI_eq (b := 200) (by omega) (by decide)).mp z))).trans (by rw [n3, tn_nI (by omega), nI_s]))
      rw [e1, e2]
      refine ⟨rfl, hM, ⟨n + 1, by omega, rfl, rfl, ?_⟩, hW, hQ, hE, hS, hK, hO, hX⟩
      show pr_ (upd ((c 2).2 0) n x) (n + 1) = pr_ (upd (m.2 1) n x) (n + 1)
      rw [pr_s, pr_s, pr_upd (Nat.le_refl n), pr_upd (Nat.le_refl n), pk_us, pk_us, n4]
  · have e1 : f_X6_write c x = (-1, c) := if_neg d
    have e2 : f_X7_write m x = (-1, m) := if_pos (in_no (by decide) (by decide) d)
    rw [e1, e2]
    exact ⟨rfl, h⟩
theorem T_wipe {c : cd_S} {m : ob_S} (h : rA_ c m) : eq_ (f_X6_wipe c) (f_X7_wipe m) := by
  obtain ⟨hM, hT, hW, hQ, hE, hS, hK, hO, hX⟩ := id h
  obtain ⟨n, n1, n2, n3, n4⟩ := hT
  exact ⟨n2.trans n3.symm, hM, ⟨0, by omega, rfl, rfl, rfl⟩, hW, hQ, hE, hS, hK, hO, hX⟩
theorem nc_eq (x y : Int32) : f_X6_isNoCommand x y = 0 ↔ (f_X6_isOutside x 0 63 = 0 ∧ f_X6_isOutside y 0 65535 = 0) := by
  constructor
  · intro h
    by_cases a : f_X6_isOutside x 0 63 = 0
    · by_cases b : f_X6_isOutside y 0 65535 = 0
      · exact ⟨a, b⟩
      · have e : f_X6_isNoCommand x y = 1 := (if_pos a).trans (if_neg b)
        rw [e] at h
        exact absurd h (by decide)
    · have e : f_X6_isNoCommand x y = 1 := if_neg a
      rw [e] at h
      exact absurd h (by decide)
  · intro h
    exact (if_pos h.1).trans (if_pos h.2)
theorem T_check (c : cd_S) (m : ob_S) (x y : Int32) : f_X6_check c x y = f_X7_check m x y := by
  by_cases a : f_X6_isOutside x 0 63 = 0
  · have a2 := in_yes (A := 0) (B := 63) (by decide) (by decide) a
    by_cases b : f_X6_isOutside y 0 65535 = 0
    · have e1 : f_X6_check c x y = f_X6_commandCheck x y := if_pos ((nc_eq x y).mpr ⟨a, b⟩)
      have e2 : f_X7_check m x y = f_X7_checked (65536 * x + y) 22 := (if_neg a2).trans (if_neg (in_yes (by decide) (by decide) b))
      rw [e1, e2]
      exact ck_eq _ _
    · have e1 : f_X6_check c x y = -1 := if_neg (fun z => b ((nc_eq x y).mp z).2)
      have e2 : f_X7_check m x y = -1 := (if_neg a2).trans (if_pos (in_no (by decide) (by decide) b))
      rw [e1, e2]
  · have e1 : f_X6_check c x y = -1 := if_neg (fun z => a ((nc_eq x y).mp z).1)
    have e2 : f_X7_check m x y = -1 := if_pos (in_no (by decide) (by decide) a)
    rw [e1, e2]
theorem T_checkOf (c : cd_S) (m : ob_S) (x : Int32) : f_X6_checkOf c x = f_X7_checkOf m x := by
  by_cases b : f_X6_isOutside x 0 65535 = 0
  · have e1 : f_X6_checkOf c x = f_X6_contentCheck x := if_pos b
    have e2 : f_X7_checkOf m x = f_X7_checked x 16 := if_neg (in_yes (by decide) (by decide) b)
    rw [e1, e2]
    exact ck_eq _ _
  · have e1 : f_X6_checkOf c x = -1 := if_neg b
    have e2 : f_X7_checkOf m x = -1 := if_pos (in_no (by decide) (by decide) b)
    rw [e1, e2]
theorem T_latest {c : cd_S} {m : ob_S} (h : rA_ c m) (x : Int32) : f_X6_latest c x = f_X7_latest m x := by
  obtain ⟨⟨_, _, _, _, _, n, n1, n2, n3, n4, _⟩, _⟩ := h
  by_cases a : 0 ≤ x
  · have e1 : f_X6_latest c x = f_X3_writtenAt (c 1) x := if_pos a
    have a1 : ¬ x < 0 := by
      have := le_t a
      rw [Int32.lt_iff_toInt_lt]; omega
    by_cases b : m.1 13 ≤ x
    · have e2 : f_X7_latest m x = -4 := (if_pos a).trans (if_pos b)
      rw [e1, e2]
      exact (if_neg a1).trans (if_pos (by rw [n2, ← n3]; exact b))
    · have e2 : f_X7_latest m x = m.2 14 (Int32.toNatClampNeg x) := (if_pos a).trans (if_neg b)
      have l0 := le_t a
      have l1 := nle_t b
      rw [n3, nI_toInt (by omega)] at l1
      rw [z_t] at l0
      obtain ⟨k, k1, k2, k3⟩ := of_rng (n := 64) l0 (by omega)
      have b2 : ¬ (64 : Int32) ≤ x := by rw [k2, le64 (by omega)]; omega
      rw [e1, e2]
      refine (if_neg a1).trans ((if_neg (by rw [n2, ← n3]; exact b)).trans ((if_neg b2).trans ?_))
      rw [k2, tn_nI (by omega)]
      exact pr_at n4 (by omega)
  · have e1 : f_X6_latest c x = -1 := if_neg a
    have e2 : f_X7_latest m x = -1 := if_neg a
    rw [e1, e2]
theorem T_word {c : cd_S} {m : ob_S} (h : rA_ c m) (x : Int32) : f_X6_word c x = f_X7_word m x := by
  obtain ⟨_, _, ⟨n, n1, n2, n3, n4, _⟩, _⟩ := h
  have em : (-1 : Int32).toInt = -1 := by decide
  by_cases a : -1 ≤ x
  · by_cases b : x = -1
    · have e1 : f_X6_word c x = (c 3).1 1 := (if_pos a).trans (if_pos b)
      have e2 : f_X7_word m x = m.1 11 := (if_pos a).trans (if_neg (by rw [b]; decide))
      rw [e1, e2, n2, n3]
    · have a2 : 0 ≤ x := by
        have l0 := le_t a
        have l1 := ne_t b em
        rw [Int32.le_iff_toInt_le, z_t]
        omega
      have a1 : ¬ x < 0 := by
        have := le_t a2
        rw [Int32.lt_iff_toInt_lt]; omega
      have e1 : f_X6_word c x = f_X1_at 8 (c 3) x := (if_pos a).trans (if_neg b)
      by_cases d : m.1 11 ≤ x
      · have e2 : f_X7_word m x = -4 := (if_pos a).trans ((if_pos a2).trans (if_pos d))
        rw [e1, e2]
        exact (if_neg a1).trans (if_pos (by rw [n2, ← n3]; exact d))
      · have e2 : f_X7_word m x = m.2 12 (Int32.toNatClampNeg x) := (if_pos a).trans ((if_pos a2).trans (if_neg d))
        have l0 := le_t a2
        have l1 := nle_t d
        rw [n3, nI_toInt (by omega)] at l1
        rw [z_t] at l0
        obtain ⟨k, k1, k2, k3⟩ := of_rng (n := 8) l0 (by omega)
        rw [e1, e2, k2, tn_nI (by omega), at_nI (by decide) n2 n1 (by omega)]
        exact pr_at n4 (by omega)
  · have e1 : f_X6_word c x = -1 := if_neg a
    have e2 : f_X7_word m x = -1 := if_neg a
    rw [e1, e2]
theorem T_later {c : cd_S} {m : ob_S} (h : rA_ c m) (x y : Int32) : f_X6_later c x y = f_X7_later m x y := by
  obtain ⟨_, _, _, hQ, _⟩ := h
  have em : (-1 : Int32).toInt = -1 := by decide
  by_cases a : x < -1
  · have e1 : f_X6_later c x y = -1 := if_pos a
    have e2 : f_X7_later m x y = -1 := if_pos a
    rw [e1, e2]
  · by_cases b : f_X6_isOutside y 0 2 = 0
    · have b2 := in_yes (A := 0) (B := 2) (by decide) (by decide) b
      by_cases d : x = -1
      · have e1 : f_X6_later c x y = (c 4).1 2 := (if_neg a).trans ((if_pos b).trans (if_pos d))
        have e2 : f_X7_later m x y = m.1 23 := (if_neg a).trans ((if_neg b2).trans ((if_pos (by rw [d]; decide)).trans (if_neg (by rw [d]; decide))))
        rw [e1, e2]
        exact hQ.1
      · have l0 := nlt_t a
        have l1 := ne_t d em
        have a1 : ¬ x < 0 := by rw [Int32.lt_iff_toInt_lt, z_t]; omega
        have a2 : 0 ≤ x := by rw [Int32.le_iff_toInt_le, z_t]; omega
        have e1 : f_X6_later c x y = f_X4_tellOf (c 4) x y := (if_neg a).trans ((if_pos b).trans (if_neg d))
        by_cases g : x < m.1 23
        · have e2 : f_X7_later m x y = (if y = 0 then m.2 24 (Int32.toNatClampNeg x) else if y = 1 then m.2 25 (Int32.toNatClampNeg x) else m.2 26 (Int32.toNatClampNeg x)) := (if_neg a).trans ((if_neg b2).trans ((if_neg a1).trans (if_pos g)))
          have g1 : ¬ (c 4).1 2 ≤ x := by
            rw [hQ.1]
            have := lt_t g
            rw [Int32.le_iff_toInt_le]; omega
          have e3 : ∀ (hx2 : x < 2), f_X4_tellOf (c 4) x y = (if y = 0 then (c 4).2 0 (Int32.toNatClampNeg x) else if y = 1 then (c 4).2 1 (Int32.toNatClampNeg x) else if x = 0 then (c 4).1 3 else 0) := fun hx2 => (if_neg a1).trans ((if_neg g1).trans (if_pos hx2))
          have l2 := lt_t g
          rcases hQ.2 with q | q | q
          · rw [q.1, z_t] at l2
            omega
          · rw [q.1, o_t] at l2
            have hx : x = 0 := Int32.toInt_inj.mp (by rw [z_t]; omega)
            subst hx
            rw [e1, e2, e3 (by decide)]
            obtain ⟨_, q1, q2, q3, _⟩ := q
            have t0 : Int32.toNatClampNeg 0 = 0 := by decide
            rw [t0, q2, q3]
            by_cases y0 : y = 0
            · rw [if_pos y0, if_pos y0]
            · rw [if_neg y0, if_neg y0]
              by_cases y1 : y = 1
              · rw [if_pos y1, if_pos y1]
              · rw [if_neg y1, if_neg y1, if_pos rfl, q1]
          · have e22 : (2 : Int32).toInt = 2 := by decide
            rw [q.1, e22] at l2
            have t0 : Int32.toNatClampNeg 0 = 0 := by decide
            have t1 : Int32.toNatClampNeg 1 = 1 := by decide
            obtain ⟨_, ⟨q1, q2, q3, _⟩, q4, q5, q6, _⟩ := q
            by_cases x0 : x = 0
            · subst x0
              rw [e1, e2, e3 (by decide), t0, q2, q3]
              by_cases y0 : y = 0
              · rw [if_pos y0, if_pos y0]
              · rw [if_neg y0, if_neg y0]
                by_cases y1 : y = 1
                · rw [if_pos y1, if_pos y1]
                · rw [if_neg y1, if_neg y1, if_pos rfl, q1]
            · have l3 := ne_t x0 z_t
              have hx : x = 1 := Int32.toInt_inj.mp (by rw [o_t]; omega)
              subst hx
              rw [e1, e2, e3 (by decide), t1, q5, q6]
              by_cases y0 : y = 0
              · rw [if_pos y0, if_pos y0]
              · rw [if_neg y0, if_neg y0]
                by_cases y1 : y = 1
                · rw [if_pos y1, if_pos y1]
                · rw [if_neg y1, if_neg y1, if_neg (by decide), q4]
        · have e2 : f_X7_later m x y = -4 := (if_neg a).trans ((if_neg b2).trans ((if_neg a1).trans ((if_neg g).trans (if_pos a2))))
          rw [e1, e2]
          exact (if_neg a1).trans (if_pos (by
            rw [hQ.1]
            have := nlt_t g
            rw [Int32.le_iff_toInt_le]; exact this))
    · have e1 : f_X6_later c x y = -1 := (if_neg a).trans (if_neg b)
      have e2 : f_X7_later m x y = -1 := (if_neg a).trans (if_pos (in_no (by decide) (by decide) b))
      rw [e1, e2]
