/-! What the calls ask, out of the two side by side -/
theorem F_B {c : cd_S} {m : ob_S} (h : rA_ c m) : 1 ≤ (m.1 3).toInt ∧ (m.1 3).toInt ≤ 64 ∧ ((c 1).1 4).toInt ≤ 64 := by
  obtain ⟨⟨⟨B, b1, b2, b3, b4⟩, _⟩, _⟩ := h
  rw [b3, b4, nI_toInt (by omega)]; omega
theorem F_L {c : cd_S} {m : ob_S} (h : rA_ c m) : (m.1 13).toInt ≤ 64 := by
  obtain ⟨⟨_, _, _, _, _, n, n1, n2, n3, _⟩, _⟩ := h
  rw [n3, nI_toInt (by omega)]; omega
theorem F_T {c : cd_S} {m : ob_S} (h : rA_ c m) : 0 ≤ (m.1 0).toInt ∧ (m.1 0).toInt ≤ 200 ∧ ((c 2).1 1).toInt ≤ 200 := by
  obtain ⟨_, ⟨n, n1, n2, n3, _⟩, _⟩ := h
  rw [n2, n3, nI_toInt (by omega)]; omega
theorem F_W {c : cd_S} {m : ob_S} (h : rA_ c m) : 0 ≤ (m.1 11).toInt ∧ (m.1 11).toInt ≤ 8 ∧ 0 ≤ ((c 3).1 1).toInt ∧ ((c 3).1 1).toInt ≤ 200 := by
  obtain ⟨_, _, ⟨n, n1, n2, n3, _⟩, _⟩ := h
  rw [n2, n3, nI_toInt (by omega)]; omega
theorem F_Q {c : cd_S} {m : ob_S} (h : rA_ c m) : 0 ≤ (m.1 23).toInt ∧ (m.1 23).toInt ≤ 2 := by
  rcases h.2.2.2.1.2 with q | q | q <;> rw [q.1] <;> decide
theorem F_4 {c : cd_S} {m : ob_S} (h : rA_ c m) : ¬ m.1 4 = 0 := by
  obtain ⟨⟨_, ⟨G, g1, g2, g3, g4⟩, _⟩, _⟩ := h
  rw [g4]
  intro z
  have := (nI_eq (b := 0) (by omega) (by decide)).mp z
  omega
theorem F_27 {c : cd_S} {m : ob_S} (h : rA_ c m) : 0 ≤ (m.1 27 * m.1 4).toInt := by
  obtain ⟨_, _, _, _, _, e6, _⟩ := h.2.2.2.2.1
  obtain ⟨⟨_, ⟨G, g1, g2, g3, g4⟩, _⟩, _⟩ := h
  obtain ⟨g, x1, x2, _⟩ := of_rng (n := 64) e6.2.1 (by omega)
  have hgG : g * G ≤ 64 * 8 := Nat.mul_le_mul x1 g2
  rw [x2, g4, pk_mul, nI_toInt (by omega)]; omega
theorem F_24 {c : cd_S} {m : ob_S} (h : rA_ c m) (hq : ¬ m.1 23 ≤ 0) : iB_ m (m.2 24 0) := by
  rcases h.2.2.2.1.2 with z | z | z
  · exfalso; apply hq; rw [z.1]; decide
  · exact z.2.2.2.2
  · exact z.2.1.2.2.2
theorem F_in {c : cd_S} {m : ob_S} (h : rA_ c m) {x : Int32} (q : iB_ m x) : vp_in x 64 := by
  obtain ⟨k, k1, k2⟩ := iB_nI h q
  rw [k2]
  exact vp_in_nI k1 (by omega)
theorem F_c6 {c : cd_S} {m : ob_S} (h : rA_ c m) : ((c 6).1 4 = 0 ∨ (c 6).1 4 = 1) ∧ ((c 6).1 3 = 0 ∨ (c 6).1 3 = 1) := by
  obtain ⟨_, e4, e37, e3, _⟩ := h.2.2.2.2.2.1
  refine ⟨by rw [e4]; exact e37, ?_⟩
  rcases e3 with z | z
  · exact Or.inl z.1
  · exact Or.inr z.1
theorem F_pc {c : cd_S} {m : ob_S} (h : rA_ c m) : pc_A c := ⟨(F_B h).2.2, (F_W h).2.2, (F_T h).2.2⟩
theorem F_pm {c : cd_S} {m : ob_S} (h : rA_ c m) : pm_A m := ⟨fun hq => F_in h (F_24 h hq), F_L h, (F_B h).2.1, F_27 h, F_4 h, ⟨(F_W h).1, (F_W h).2.1⟩, (F_T h).2.1⟩
theorem F_pt {c : cd_S} {m : ob_S} (h : rA_ c m) : pm_T m := by
  refine ⟨fun hq => ⟨F_in h (F_24 h hq), ?_⟩, F_L h, (F_B h).2.1, F_27 h⟩
  have q := F_24 h hq
  obtain ⟨i, i1, i2⟩ := iB_nI h q
  obtain ⟨a, a1, p1, _⟩ := M_put (m := ob_i m 7 (m.1 7 + 1)) h.1 (i := i) (by rw [← i2]; exact q) i1 (m.2 25 0) (m.2 26 0 + 1)
  have e : m.2 24 (Int32.toNatClampNeg 0) = nI i := i2
  rw [e]
  have p1' : (f_X7_forgets (ob_a (ob_i m 7 (m.1 7 + 1)) 26 (Int32.toNatClampNeg 0) (m.2 26 (Int32.toNatClampNeg 0) + 1)) (nI i)).1 13 = nI a := p1
  rw [p1', nI_toInt (by omega)]
  omega
theorem F_get {c : cd_S} {m : ob_S} (h : rA_ c m) : ¬ (m.1 15) = 0 → (m.1 16) = 5 → vp_in (m.1 35) 64 := by
  intro _ s5
  obtain ⟨_, _, _, x1, x2, _⟩ := h.2.2.2.2.2.2.2.2
  exact F_in h ⟨(x1 (Or.inl s5)).1, x2 s5⟩
theorem pm_g {m : ob_S} (h : pm_A m) (a : Int32) : pm_A (gm_ m 21 a).2 := by
  have e2 : f_X7_streams m 21 a = (if f_X7_isInWindow (ob_i m 20 (a - a / 16 * 16)) = 0 then (0, ob_i m 20 (a - a / 16 * 16)) else (1, ob_i m 20 (a - a / 16 * 16))) := if_pos rfl
  rw [gm_21, e2]
  split
  · exact h
  · exact h
theorem pm_ms {m : ob_S} (h : pm_A m) (a : Int32) : pm_A (ms_ m 21 a).2 := by
  have h2 : pm_A (bk_ m) := h
  by_cases k : m.1 32 ≤ 0
  · have e : ms_ m 21 a = gm_ m 21 a := if_pos k
    rw [e]; exact pm_g h a
  · have e : ms_ m 21 a = gm_ (bk_ m) 21 a := (if_neg k).trans ((if_neg (by decide)).trans ((if_neg (by decide)).trans (if_neg (by decide))))
    rw [e]; exact pm_g h2 a
theorem pm_tell {m : ob_S} (h : pm_A m) (a : Int32) : pm_A (f_X7_tell m 21 a).2 := by
  have h21 : f_X6_isOutside 21 0 63 = 0 := by decide
  by_cases ha : f_X6_isOutside a 0 65535 = 0
  · rw [tell_sm h21 ha]
    unfold sm_
    split
    · exact h
    · split
      · split
        · exact h
        · split
          · exact pm_ms h a
          · split
            · exact pm_ms h a
            · exact h
      · exact h
  · have e2 : f_X7_tell m 21 a = (-1, m) := (if_neg (in_yes (by decide) (by decide) h21)).trans (if_pos (in_no (by decide) (by decide) ha))
    rw [e2]; exact h
theorem pc_obey {c : cd_S} (h : pc_A c) (a : Int32) : pc_A (f_X6_obey c 21 a).2 := by
  rw [ob_21]
  exact h
/-- the two new ones -/
theorem rA_new : rA_ (f_X6_renew z_C 32 4 2 1000) (f_X7_make z_S 32 4 2 1000).2 := by
  have e2 : f_X7_make z_S 32 4 2 1000 = k_X7_make_97 32 65 0 (ob_i (ob_i (ob_i (ob_i (ob_i (ob_i (ob_i (ob_i z_S 3 32) 4 4) 5 2) 6 1000) 7 0) 8 0) 11 0) 13 0) := (if_neg (by decide)).trans ((if_neg (by decide)).trans ((if_neg (by decide)).trans (if_neg (by decide))))
  rw [e2]
  exact (T_renew (c := z_C) (m := z_S) ⟨0, by decide, rfl, rfl, rfl⟩ rfl (by decide) rfl rfl (fl_01 (fun _ => Or.inl rfl) (Or.inl rfl)) (by decide) (B := 32) (G := 4) (by decide) (by decide) (by decide) (by decide) 2 1000).2
