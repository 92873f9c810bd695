theorem has_of {c : cd_S} {m : ob_S} (h : rA_ c m) (x : Int32) : f_X3_has (c 1) x = 0 ↔ ¬ iB_ m x := by
  obtain ⟨⟨⟨B, b1, b2, b3, b4⟩, _⟩, _⟩ := h
  constructor
  · intro e q
    have c1 : ¬ x < 0 := by rw [Int32.lt_iff_toInt_lt, z_t]; have := q.1; omega
    have c2 : ¬ (c 1).1 4 ≤ x := by rw [b3, ← b4, Int32.le_iff_toInt_le]; have := q.2; omega
    have e2 : f_X3_has (c 1) x = 1 := (if_neg c1).trans (if_neg c2)
    rw [e2] at e
    exact absurd e (by decide)
  · intro q
    by_cases c1 : x < 0
    · exact if_pos c1
    · by_cases c2 : (c 1).1 4 ≤ x
      · exact (if_neg c1).trans (if_pos c2)
      · exfalso
        apply q
        have l1 := nlt_t c1
        have l2 := nle_t c2
        rw [b3, ← b4] at l2
        rw [z_t] at l1
        exact ⟨l1, l2⟩
theorem iB_nI {c : cd_S} {m : ob_S} (h : rA_ c m) {x : Int32} (q : iB_ m x) : ∃ k : Nat, k < 64 ∧ x = nI k := by
  obtain ⟨⟨⟨B, b1, b2, b3, b4⟩, _⟩, _⟩ := h
  obtain ⟨q1, q2⟩ := q
  rw [b4, nI_toInt (by omega)] at q2
  obtain ⟨k, k1, k2, k3⟩ := of_rng (n := 64) q1 (by omega)
  exact ⟨k, by omega, k2⟩
theorem con_of {c : cd_S} {m : ob_S} (h : rA_ c m) {x : Int32} (q : iB_ m x) : f_X3_contentOf (c 1) x = m.2 9 (Int32.toNatClampNeg x) := by
  have n := fun z => (has_of h x).mp z q
  obtain ⟨⟨_, _, e, _⟩, _⟩ := h
  exact (if_neg n).trans (by rw [e])
theorem torn_of {c : cd_S} {m : ob_S} (h : rA_ c m) {x : Int32} (q : iB_ m x) : f_X3_isTorn (c 1) x = m.2 10 (Int32.toNatClampNeg x) := by
  have n := fun z => (has_of h x).mp z q
  obtain ⟨⟨_, _, _, e, z, _⟩, _⟩ := h
  refine (if_neg n).trans ?_
  rw [e]
  rcases z (Int32.toNatClampNeg x) with w | w <;> rw [w] <;> rfl
theorem as_01 {x : Int32} (h : x = 0 ∨ x = 1) : f_X6_asNumber x = x := by
  rcases h with h | h <;> rw [h] <;> rfl
theorem T_block {c : cd_S} {m : ob_S} (h : rA_ c m) (x y : Int32) : f_X6_block c x y = f_X7_block m x y := by
  obtain ⟨⟨⟨B, b1, b2, b3, b4⟩, ⟨G, g1, g2, g3, g4⟩, _, _, zz, _⟩, _⟩ := id h
  have hin : f_X7_in (Int32.toInt64 x) 0 (Int32.toInt64 (m.1 3 - 1)) = 0 ↔ ¬ iB_ m x := by
    have e1 : (m.1 3 - 1).toInt = (m.1 3).toInt - 1 := sub1_t (by rw [b4, nI_toInt (by omega)]; omega)
    have e0 : (0 : Int64).toInt = 0 := by decide
    constructor
    · intro e q
      have l1 : ¬ lg_cmp (Int32.toInt64 x) 0 < 0 := by
        rw [lg_cmp_lt, Int64.lt_iff_toInt_lt, Int32.toInt_toInt64, e0]; have := q.1; omega
      have l2 : ¬ 0 < lg_cmp (Int32.toInt64 x) (Int32.toInt64 (m.1 3 - 1)) := by
        rw [lg_cmp_gt, Int64.lt_iff_toInt_lt, Int32.toInt_toInt64, Int32.toInt_toInt64, e1]; have := q.2; omega
      have e2 : f_X7_in (Int32.toInt64 x) 0 (Int32.toInt64 (m.1 3 - 1)) = 1 := (if_neg l1).trans (if_neg l2)
      rw [e2] at e
      exact absurd e (by decide)
    · intro q
      rcases Classical.em (f_X7_in (Int32.toInt64 x) 0 (Int32.toInt64 (m.1 3 - 1)) = 0) with z | z
      · exact z
      · exfalso
        apply q
        have z2 := in_t z
        rw [Int32.toInt_toInt64, Int32.toInt_toInt64, e0, e1] at z2
        exact ⟨z2.1, by omega⟩
  by_cases a : iB_ m x
  · have a1 : ¬ f_X3_has (c 1) x = 0 := fun z => (has_of h x).mp z a
    have a2 : ¬ f_X7_in (Int32.toInt64 x) 0 (Int32.toInt64 (m.1 3 - 1)) = 0 := fun z => hin.mp z a
    by_cases b : f_X6_isOutside y 0 2 = 0
    · have bb := in_yes (A := 0) (B := 2) (by decide) (by decide) b
      by_cases y0 : y = 0
      · have e1 : f_X6_block c x y = f_X3_contentOf (c 1) x := (if_neg a1).trans ((if_pos b).trans (if_pos y0))
        have e2 : f_X7_block m x y = m.2 9 (Int32.toNatClampNeg x) := (if_neg a2).trans ((if_neg bb).trans (if_pos y0))
        rw [e1, e2, con_of h a]
      · by_cases y1 : y = 1
        · have e1 : f_X6_block c x y = f_X6_asNumber (f_X3_isTorn (c 1) x) := (if_neg a1).trans ((if_pos b).trans ((if_neg y0).trans (if_pos y1)))
          have e2 : f_X7_block m x y = m.2 10 (Int32.toNatClampNeg x) := (if_neg a2).trans ((if_neg bb).trans ((if_neg y0).trans (if_pos y1)))
          rw [e1, e2, torn_of h a, as_01 (zz _)]
        · have e1 : f_X6_block c x y = f_X3_groupOf (c 1) x := (if_neg a1).trans ((if_pos b).trans ((if_neg y0).trans (if_neg y1)))
          have e2 : f_X7_block m x y = x / m.1 4 := (if_neg a2).trans ((if_neg bb).trans ((if_neg y0).trans (if_neg y1)))
          rw [e1, e2]
          have g5 : ¬ (c 1).1 5 ≤ 0 := by rw [g3]; exact nI_nle (by omega) (by omega)
          exact (if_neg g5).trans (by rw [g3, g4])
    · have e1 : f_X6_block c x y = -1 := (if_neg a1).trans (if_neg b)
      have e2 : f_X7_block m x y = -1 := (if_neg a2).trans (if_pos (in_no (by decide) (by decide) b))
      rw [e1, e2]
  · have e1 : f_X6_block c x y = -1 := if_pos ((has_of h x).mpr a)
    have e2 : f_X7_block m x y = -1 := if_pos (hin.mpr a)
    rw [e1, e2]
theorem sm_eq {c : cd_S} {m : ob_S} (h : rA_ c m) : f_X6_isStreaming c = (if m.1 15 = 0 then 0 else if m.1 16 = 5 then 1 else if m.1 16 = 6 then 1 else 0) := by
  obtain ⟨_, _, _, _, _, _, _, hO, _⟩ := id h
  by_cases a : m.1 15 = 0
  · rw [if_pos a]
    have q : (c 0).1 12 = -1 := by
      rcases hO.2.2.2.2.2.2.2.2.2.1 with q | q
      · exact q.2.1
      · rw [a] at q; exact absurd q.1 (by decide)
    exact (if_neg (by rw [q]; decide)).trans (if_neg (by rw [q]; decide))
  · rw [if_neg a]
    have q := (on_of h a).2.1
    show (if (c 0).1 12 = 5 then 1 else if (c 0).1 12 = 6 then 1 else 0) = _
    rw [q]
theorem T_count {c : cd_S} {m : ob_S} (h : rA_ c m) (x : Int32) : f_X6_count c x = f_X7_count m x := by
  obtain ⟨hM, hT, hW, hQ, hE, hS, hK, hO, hX⟩ := id h
  obtain ⟨⟨B, b1, b2, b3, b4⟩, ⟨G, g1, g2, g3, g4⟩, mc, mt, zz, _⟩ := id hM
  obtain ⟨o1, o2, o3, o4, o5, o6, o7, o8, o9, o10, o11⟩ := id hO
  obtain ⟨k1, k2, k3, _⟩ := id hK
  obtain ⟨n, n1, n2, n3, n4⟩ := hT
  unfold f_X6_count f_X7_count
  dsimp only
  by_cases x0 : x = 0
  · rw [if_pos x0, if_pos x0]; exact b3.trans b4.symm
  rw [if_neg x0, if_neg x0]
  by_cases x1 : x = 1
  · rw [if_pos x1, if_pos x1]; exact g3.trans g4.symm
  rw [if_neg x1, if_neg x1]
  by_cases x2 : x = 2
  · rw [if_pos x2, if_pos x2, pw_eq h]
    by_cases a : m.1 15 = 0
    · rw [if_pos a, if_pos a]
    · rw [if_neg a, if_neg a]; exact (on_of h a).2.1
  rw [if_neg x2, if_neg x2]
  by_cases x3 : x = 3
  · subst x3; exact o7
  rw [if_neg x3, if_neg x3]
  by_cases x4 : x = 4
  · subst x4; exact k1
  rw [if_neg x4, if_neg x4]
  by_cases x5 : x = 5
  · subst x5; exact k2
  rw [if_neg x5, if_neg x5]
  by_cases x6 : x = 6
  · subst x6; exact k3
  rw [if_neg x6, if_neg x6]
  by_cases x7 : x = 7
  · subst x7
    show f_X6_asNumber ((c 0).1 16) = (if m.1 15 = 0 then 0 else if m.1 21 = 0 then 0 else 1)
    rcases o10 with q | q
    · rw [q.2.2, if_pos q.1]; rfl
    · rw [q.2.2, if_neg (by rw [q.1]; decide)]; rfl
  rw [if_neg x7, if_neg x7]
  by_cases x8 : x = 8
  · subst x8; exact o8
  rw [if_neg x8, if_neg x8]
  by_cases x9 : x = 9
  · rw [if_pos x9, if_pos x9]; exact o3
  rw [if_neg x9, if_neg x9]
  by_cases x10 : x = 10
  · subst x10; exact hE.2.2.1
  rw [if_neg x10, if_neg x10]
  by_cases x11 : x = 11
  · rw [if_pos x11, if_pos x11]
    exact to_loop b2 b3 b4 mt zz 65 0 0 (by decide)
  rw [if_neg x11, if_neg x11]
  by_cases x12 : x = 12
  · rw [if_pos x12, if_pos x12]; exact o4
  rw [if_neg x12, if_neg x12]
  by_cases x13 : x = 13
  · rw [if_pos x13, if_pos x13]; exact o5
  rw [if_neg x13, if_neg x13]
  by_cases x14 : x = 14
  · rw [if_pos x14, if_pos x14]; exact n2.trans n3.symm
  rw [if_neg x14, if_neg x14]
  by_cases x15 : x = 15
  · rw [if_pos x15, if_pos x15, sm_eq h]
    by_cases s : (if m.1 15 = 0 then (0 : Int32) else if m.1 16 = 5 then 1 else if m.1 16 = 6 then 1 else 0) = 0
    · rw [if_pos s, if_pos s]
    · rw [if_neg s, if_neg s]
      have st : m.1 16 = 5 ∨ m.1 16 = 6 := by
        by_cases a : m.1 15 = 0
        · exact absurd (if_pos a) s
        · rw [if_neg a] at s
          by_cases b : m.1 16 = 5
          · exact Or.inl b
          · rw [if_neg b] at s
            by_cases d : m.1 16 = 6
            · exact Or.inr d
            · exact absurd (if_neg d) s
      have l := hX.2.2.2.1 st
      have nx : f_X5_next (c 6) = m.1 35 := hS.1
      rw [nx]
      by_cases q : m.1 3 ≤ m.1 35
      · rw [if_pos ((has_of h _).mpr (fun z => by have := z.2; have := le_t q; omega)), if_pos q]
      · rw [if_neg (fun z => (has_of h _).mp z ⟨l.1, nle_t q⟩), if_neg q]
  rw [if_neg x15, if_neg x15]
  by_cases x16 : x = 16
  · rw [if_pos x16, if_pos x16, sm_eq h]
    by_cases s : (if m.1 15 = 0 then (0 : Int32) else if m.1 16 = 5 then 1 else if m.1 16 = 6 then 1 else 0) = 0
    · rw [if_pos s, if_pos s]
    · rw [if_neg s, if_neg s]
      show (if (c 6).1 3 = 0 then -4 else (c 6).1 2) = m.1 36
      rcases hS.2.2.2.1 with q | q
      · rw [if_pos q.1, q.2]
      · rw [if_neg (by rw [q.1]; decide), q.2.1]
  rw [if_neg x16, if_neg x16]
  by_cases x17 : x = 17
  · rw [if_pos x17, if_pos x17]
    exact fi_loop b2 b3 b4 mc 65 0 0 (by decide)
  rw [if_neg x17, if_neg x17]
  by_cases x18 : x = 18
  · rw [if_pos x18, if_pos x18, win_of h]
    by_cases q : f_X7_isInWindow m = 0
    · rw [if_pos q, q]; rfl
    · rw [if_neg q]; exact if_neg q
  rw [if_neg x18, if_neg x18]
/-! get and give -/
theorem cm_of {c : cd_S} {m : ob_S} (h : rA_ c m) : f_X5_isComplete (c 6) = 0 ↔ ¬ m.1 36 = 0 := by
  obtain ⟨_, _, _, _, _, hS, _⟩ := h
  rcases hS.2.2.2.1 with q | q
  · have e : f_X5_isComplete (c 6) = 0 := if_pos q.1
    rw [e, q.2]
    decide
  · have q1 : ¬ (c 6).1 3 = 0 := by rw [q.1]; decide
    by_cases d : m.1 36 = 0
    · have e : f_X5_isComplete (c 6) = 1 := (if_neg q1).trans (if_neg (by rw [q.2.1, d]; decide))
      rw [e]
      exact ⟨fun z => absurd z (by decide), fun z => absurd d z⟩
    · have l := ne_t d z_t
      have e : f_X5_isComplete (c 6) = 0 := (if_neg q1).trans (if_pos (by rw [q.2.1, Int32.lt_iff_toInt_lt, z_t]; have := q.2.2; omega))
      rw [e]
      exact ⟨fun _ => d, fun _ => rfl⟩
