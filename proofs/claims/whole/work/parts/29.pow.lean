/-! What is torn, power, a new card -/
theorem q_one (i : Nat) (hi : i < 2 ^ 30) (L : List Int32) : L.filter (fun x => decide (x ≠ nI i)) = L.filter (q_ (nI i) (nI (i + 1))) := by
  have h := q_step (a := i) (b := i + 1) (by omega) (by omega) L
  rw [q_all (by omega) (by omega) (Nat.le_refl _)] at h
  exact h
theorem vn_01 {t : Int32} (h : t = 0 ∨ t = 1) : vp_nar .boolean t = t := by
  rcases h with h | h <;> rw [h] <;> rfl
theorem M_blank {k m m' : ob_S} (h : rM_ k m) {a l : Nat} {t : Int32} (ht : t = 0 ∨ t = 1) (ha : a < 2 ^ 29) (hl : l < 2 ^ 29) {B n n' : Nat} (hB : B ≤ 64) (hk4 : k.1 4 = nI B) (hn : m.1 13 = nI n) (hn64 : n ≤ 64)
    (e3 : m'.1 3 = m.1 3) (e4 : m'.1 4 = m.1 4) (e9 : m'.2 9 = fl_ (m.2 9) a (min B (a + l)) 65535) (e10 : m'.2 10 = fl_ (m.2 10) a (min B (a + l)) t) (e13 : m'.1 13 = nI n') (hn' : n' ≤ n) (e14 : pr_ (m'.2 14) n' = (pr_ (m.2 14) n).filter (q_ (nI a) (nI (min B (a + l))))) : rM_ (f_X3_blank k (nI a) (nI l) t) m' := by
  obtain ⟨⟨B0, b1, b2, b3, b4⟩, ⟨G, g1, g2, g3, g4⟩, c9, c10, zz, n0, n1, n2, n3, n4, n5, n6⟩ := h
  have en : n0 = n := by rw [hn] at n3; exact ((nI_eq (by omega) (by omega)).mp n3).symm
  subst en
  rw [bl_spec k t hB hk4 ha hl]
  obtain ⟨i, i1, i2, i3, i4, i5⟩ := dr_spec (f2_ k 0 1 a (min B (a + l)) 65535 (vp_nar .boolean t)) (nI a) (nI (min B (a + l))) hn64 n2
  have i3' : pr_ ((f_X3_dropWritten (f2_ k 0 1 a (min B (a + l)) 65535 (vp_nar .boolean t)) (nI a) (nI (min B (a + l)))).2 2) i = (pr_ (k.2 2) n0).filter (q_ (nI a) (nI (min B (a + l)))) := i3
  rw [n4] at i3'
  have ei : i = n' := by
    have z1 := congrArg List.length i3'
    have z2 := congrArg List.length e14
    rw [pr_len] at z1 z2
    omega
  subst ei
  refine ⟨⟨B0, b1, b2, ?_, e3.trans b4⟩, ⟨G, g1, g2, ?_, e4.trans g4⟩, ?_, ?_, ?_, i, by omega, i1, e13, i3'.trans e14.symm, ?_, ?_⟩
  · rw [i5 4 (by decide)]; exact b3
  · rw [i5 5 (by decide)]; exact g3
  · rw [i4 0 (by decide), e9, ← c9]; rfl
  · rw [i4 1 (by decide), e10, ← c10]
    show fl_ (k.2 1) a (min B (a + l)) (vp_nar .boolean t) = _
    rw [vn_01 ht]
  · rw [e10]; exact fl_01 zz ht
  · rw [e14]; exact List.Nodup.sublist List.filter_sublist n5
  · intro x hx
    rw [e14] at hx
    have := n6 x (List.mem_filter.mp hx).1
    unfold iB_ at this ⊢
    rw [e3]; exact this
/-- what a change of the memory alone leaves -/
def fr_ (m m' : ob_S) : Prop := (∀ j, j ≠ 13 → m'.1 j = m.1 j) ∧ ∀ j, j ≠ 9 → j ≠ 10 → j ≠ 14 → m'.2 j = m.2 j
theorem rA_mem {c : cd_S} {m m' : ob_S} {k : ob_S} (h : rA_ c m) (f : fr_ m m') (hk : rM_ k m') : rA_ (va_up c 1 k) m' := by
  obtain ⟨hM, hT, hW, hQ, hE, hS, hK, hO, hX⟩ := h
  obtain ⟨f1, f2⟩ := f
  refine ⟨hk, ?_, ?_, ?_, ?_, ?_, ?_, ?_, ?_⟩
  · show rT_ (c 2) m'
    unfold rT_
    rw [f1 0 (by decide), f2 1 (by decide) (by decide) (by decide)]; exact hT
  · show rW_ (c 3) m'
    unfold rW_
    rw [f1 11 (by decide), f1 21 (by decide), f2 12 (by decide) (by decide) (by decide)]; exact hW
  · show rQ_ (c 4) m'
    unfold rQ_ iB_
    rw [f1 23 (by decide), f1 3 (by decide), f2 24 (by decide) (by decide) (by decide), f2 25 (by decide) (by decide) (by decide), f2 26 (by decide) (by decide) (by decide)]; exact hQ
  · show rE_ (c 5) m'
    unfold rE_ iB_
    rw [f1 32 (by decide), f1 33 (by decide), f1 34 (by decide), f1 28 (by decide), f1 29 (by decide), f1 27 (by decide), f1 3 (by decide)]; exact hE
  · show rS_ (c 6) m'
    unfold rS_
    rw [f1 35 (by decide), f1 36 (by decide), f1 37 (by decide), f1 30 (by decide)]; exact hS
  · show rK_ (c 7) m'
    unfold rK_
    rw [f1 18 (by decide), f1 19 (by decide), f1 20 (by decide)]; exact hK
  · show rO_ (c 0) m'
    unfold rO_
    rw [f1 5 (by decide), f1 6 (by decide), f1 8 (by decide), f1 7 (by decide), f1 2 (by decide), f1 17 (by decide), f1 22 (by decide), f1 31 (by decide), f1 15 (by decide), f1 16 (by decide), f1 21 (by decide)]; exact hO
  · unfold rX_
    rw [f1 16 (by decide), f1 15 (by decide), f1 23 (by decide), f1 35 (by decide), f1 36 (by decide), f1 3 (by decide)]; exact hX
theorem M_tear {k m : ob_S} (h : rM_ k m) {x : Int32} (hx : iB_ m x) : rM_ (f_X3_tear k x) (f_X7_empties m x 1) ∧ fr_ m (f_X7_empties m x 1) := by
  obtain ⟨⟨B, b1, b2, b3, b4⟩, _, _, _, _, n, n1, n2, n3, _⟩ := id h
  obtain ⟨x1, x2⟩ := hx
  rw [b4, nI_toInt (by omega)] at x2
  obtain ⟨i, i1, rfl, _⟩ := of_rng (n := 64) x1 (by omega)
  rw [nI_toInt (by omega)] at x2
  obtain ⟨a, p1, p2, p3, p4, p5⟩ := em_spec m (i := i) 1 (by omega) n1 n3
  have em : min B (i + 1) = i + 1 := by omega
  refine ⟨?_, p5, fun j j9 j10 j14 => ?_⟩
  · show rM_ (f_X3_blank k (nI i) (nI 1) 1) (f_X7_empties m (nI i) 1)
    refine M_blank h (Or.inr rfl) (by omega) (by decide) b2 b3 n3 n1 (p5 3 (by decide)) (p5 4 (by decide)) ?_ ?_ p1 p2 ?_
    · rw [p4 9 (by decide), em, ← fl_1]; rfl
    · rw [p4 10 (by decide), em, ← fl_1]; rfl
    · rw [p3, em, q_one i (by omega)]
  · rw [p4 j j14]
    exact (if_neg j10).trans (if_neg j9)
theorem M_group {k m : ob_S} (h : rM_ k m) {g : Nat} (hg : g ≤ 64) {t : Int32} (ht : t = 0 ∨ t = 1) : rM_ (f_X3_blank k (nI g * k.1 5) (k.1 5) t) (f_X7_groupEmpties m (nI g) t) ∧ fr_ m (f_X7_groupEmpties m (nI g) t) := by
  obtain ⟨⟨B, b1, b2, b3, b4⟩, ⟨G, g1, g2, g3, g4⟩, _, _, _, n, n1, n2, n3, _⟩ := id h
  have hgG : g * G ≤ 64 * 8 := Nat.mul_le_mul hg g2
  have hgG1 : (g + 1) * G = g * G + G := Nat.succ_mul g G
  have e0 : f_X7_groupEmpties m (nI g) t = k_X7_groupEmpties_7 (nI g) t 65 (nI (g * G)) m := by
    show k_X7_groupEmpties_7 (nI g) t 65 (nI g * m.1 4) m = _
    rw [g4, pk_mul]
  obtain ⟨a, p1, p2, p3, p4, p5⟩ := ge_loop (nI g) t ((g + 1) * G) B (by omega) b2 65 (g * G) n m (by omega) (by decide) (by omega) n1 (by rw [g4, nI_s, pk_mul]) b4 n3
  rw [← e0] at p1 p3 p4 p5
  have em : min ((g + 1) * G) B = min B (g * G + G) := by rw [hgG1, Nat.min_comm]
  rw [em] at p3 p4
  refine ⟨?_, p5, fun j j9 j10 j14 => ?_⟩
  · rw [g3, pk_mul]
    refine M_blank h ht (by omega) (by omega) b2 b3 n3 n1 (p5 3 (by decide)) (p5 4 (by decide)) ?_ ?_ p1 p2 p3
    · rw [p4 9 (by decide)]; rfl
    · rw [p4 10 (by decide)]; rfl
  · rw [p4 j j14]
    exact (if_neg j9).trans (if_neg j10)
/-- the group that is being erased, torn -/
theorem cut_2 {c : cd_S} {m : ob_S} (h : rA_ c m) : rA_ (if f_X0_groupHasBegun (c 5) = 0 then c else va_up c 1 (f_X3_tearGroup (c 1) (f_X0_group (c 5)))) (if m.1 28 ≤ 0 then m else if m.1 29 ≤ 0 then m else f_X7_groupEmpties m (m.1 27) 1) := by
  have hE := h.2.2.2.2.1
  obtain ⟨_, _, e4, e5, _, e6, e7⟩ := hE
  by_cases a : m.1 28 ≤ 0
  · have z0 : f_X0_groupHasBegun (c 5) = 0 := if_pos (by rw [e4]; exact a)
    rw [if_pos z0, if_pos a]; exact h
  · by_cases b : m.1 29 ≤ 0
    · have z0 : f_X0_groupHasBegun (c 5) = 0 := (if_neg (by rw [e4]; exact a)).trans (if_pos (by rw [e5]; exact b))
      rw [if_pos z0, if_neg a, if_pos b]; exact h
    · have z : ¬ f_X0_groupHasBegun (c 5) = 0 := by
        have e : f_X0_groupHasBegun (c 5) = 1 := (if_neg (by rw [e4]; exact a)).trans (if_neg (by rw [e5]; exact b))
        rw [e]; decide
      rw [if_neg z, if_neg a, if_neg b]
      have l := nle_t a
      rw [z_t] at l
      have e3 : f_X0_group (c 5) = m.1 27 := e7 l
      obtain ⟨g, g1, g2, _⟩ := of_rng (n := 64) e6.2.1 (by omega)
      rw [e3, g2]
      obtain ⟨r1, r2⟩ := M_group h.1 g1 (t := 1) (Or.inr rfl)
      exact rA_mem h r2 r1
theorem T_cut {c : cd_S} {m : ob_S} (h : rA_ c m) : rA_ (f_X6_tearUnfinished c) (f_X7_cuts m) := by
  have hQ := h.2.2.2.1
  have plain : f_X4_firstHasBegun (c 4) = 0 → f_X7_cuts m = (if m.1 28 ≤ 0 then m else if m.1 29 ≤ 0 then m else f_X7_groupEmpties m (m.1 27) 1) → rA_ (f_X6_tearUnfinished c) (f_X7_cuts m) := by
    intro g1 g2
    have e1 : f_X6_tearUnfinished c = (if f_X0_groupHasBegun (c 5) = 0 then c else va_up c 1 (f_X3_tearGroup (c 1) (f_X0_group (c 5)))) := if_pos g1
    rw [e1, g2]
    exact cut_2 h
  by_cases a : m.1 23 ≤ 0
  · exact plain (if_pos (by rw [hQ.1]; exact a)) (if_pos a)
  · have q : (c 4).1 3 = m.2 26 0 ∧ (c 4).2 0 0 = m.2 24 0 ∧ iB_ m (m.2 24 0) := by
      rcases hQ.2 with z | z | z
      · exfalso; apply a; rw [z.1]; decide
      · exact ⟨z.2.1, z.2.2.1, z.2.2.2.2⟩
      · exact ⟨z.2.1.1, z.2.1.2.1, z.2.1.2.2.2⟩
    have t0 : Int32.toNatClampNeg 0 = 0 := by decide
    by_cases b : m.2 26 (Int32.toNatClampNeg 0) ≤ 0
    · exact plain ((if_neg (by rw [hQ.1]; exact a)).trans (if_pos (by rw [q.1]; exact b))) ((if_neg a).trans (if_pos b))
    · have g1 : ¬ f_X4_firstHasBegun (c 4) = 0 := by
        have e : f_X4_firstHasBegun (c 4) = 1 := (if_neg (by rw [hQ.1]; exact a)).trans (if_neg (by rw [q.1]; exact b))
        rw [e]; decide
      have tl : f_X4_tellOf (c 4) 0 0 = m.2 24 0 := (if_neg (by decide)).trans ((if_neg (by rw [hQ.1]; exact a)).trans ((if_pos (by decide)).trans ((if_pos rfl).trans q.2.1)))
      obtain ⟨r1, r2⟩ := M_tear h.1 q.2.2
      have h2 := rA_mem h r2 r1
      have e1 : f_X6_tearUnfinished c = (if f_X0_groupHasBegun ((va_up c 1 (f_X3_tear (c 1) (m.2 24 0))) 5) = 0 then va_up c 1 (f_X3_tear (c 1) (m.2 24 0)) else va_up (va_up c 1 (f_X3_tear (c 1) (m.2 24 0))) 1 (f_X3_tearGroup ((va_up c 1 (f_X3_tear (c 1) (m.2 24 0))) 1) (f_X0_group ((va_up c 1 (f_X3_tear (c 1) (m.2 24 0))) 5)))) := (if_neg g1).trans (by rw [tl]; rfl)
      have e2 : f_X7_cuts m = (if (f_X7_empties m (m.2 24 0) 1).1 28 ≤ 0 then f_X7_empties m (m.2 24 0) 1 else if (f_X7_empties m (m.2 24 0) 1).1 29 ≤ 0 then f_X7_empties m (m.2 24 0) 1 else f_X7_groupEmpties (f_X7_empties m (m.2 24 0) 1) ((f_X7_empties m (m.2 24 0) 1).1 27) 1) := (if_neg a).trans (if_neg b)
      rw [e1, e2]
      exact cut_2 h2
/-! power on, power off -/
/-- what stays whatever happens to the power -/
def rP_ (c : cd_S) (m : ob_S) : Prop := rM_ (c 1) m ∧ rT_ (c 2) m ∧ (∃ n : Nat, n ≤ 8 ∧ (c 3).1 1 = nI n ∧ m.1 11 = nI n ∧ pr_ ((c 3).2 0) n = pr_ (m.2 12) n) ∧ ((c 0).1 7 = m.1 5 ∧ (c 0).1 8 = m.1 6 ∧ (c 0).1 9 = m.1 8 ∧ (c 0).1 10 = m.1 7 ∧ (c 0).1 11 = m.1 2 ∧ (0 ≤ (m.1 2).toInt ∧ (m.1 2).toInt < 16)) ∧ (0 ≤ (m.1 27).toInt ∧ (m.1 27).toInt ≤ 64)
theorem rP_of {c : cd_S} {m : ob_S} (h : rA_ c m) : rP_ c m := by
  obtain ⟨hM, hT, ⟨n, n1, n2, n3, n4, _⟩, hQ, hE, hS, hK, hO, hX⟩ := h
  obtain ⟨o1, o2, o3, o4, o5, o6, _⟩ := hO
  obtain ⟨_, _, _, _, _, e6, _⟩ := hE
  exact ⟨hM, hT, ⟨n, n1, n2, n3, n4⟩, ⟨o1, o2, o3, o4, o5, o6⟩, e6.2.1, by omega⟩
theorem lk_n {m : ob_S} {n : Nat} (h : m.1 11 = nI n) (hn : n ≤ 8) : ¬ (if m.1 11 ≤ 0 then (0 : Int32) else 1) = 0 → 0 < n := by
  intro z
  rcases Nat.eq_zero_or_pos n with y | y
  · exfalso
    apply z
    rw [h, y]; rfl
  · exact y
theorem if_01 (p : Prop) [Decidable p] : (if p then (0 : Int32) else 1) = 0 ∨ (if p then (0 : Int32) else 1) = 1 := by split <;> simp
theorem D_off {c : cd_S} {m : ob_S} (h : rP_ c m) : rA_ (f_X6_goDark c) (ob_i (f_X7_begins m) 15 0) := by
  obtain ⟨hM, hT, ⟨n, n1, n2, n3, n4⟩, ⟨o1, o2, o3, o4, o5, o6⟩, e1, e2⟩ := h
  refine ⟨hM, hT, ⟨n, n1, n2, n3, n4, lk_n n3 n1⟩, ⟨rfl, Or.inl ⟨rfl, rfl⟩⟩, ⟨rfl, Or.inl rfl, rfl, rfl, Or.inl rfl, ?_, fun z => absurd z (by show ¬ 0 < (0 : Int32).toInt; decide)⟩, ⟨rfl, rfl, Or.inl rfl, Or.inl ⟨rfl, rfl⟩, Or.inl ⟨rfl, rfl⟩⟩, ⟨rfl, rfl, rfl, by show 0 ≤ (0 : Int32).toInt ∧ (0 : Int32).toInt < 3; decide, by show 0 ≤ (0 : Int32).toInt ∧ (0 : Int32).toInt < 4; decide, by show 0 ≤ (0 : Int32).toInt ∧ (0 : Int32).toInt < 16; decide⟩, ⟨o1, o2, o3, o4, o5, o6, rfl, rfl, rfl, Or.inl ⟨rfl, rfl, rfl⟩, if_01 _⟩, ?_⟩
  · show 0 ≤ (0 : Int32).toInt ∧ 0 ≤ (m.1 27).toInt ∧ (m.1 27).toInt + (0 : Int32).toInt ≤ 64
    rw [z_t]; omega
  · exact rX_of (s := 0) rfl (by decide) (by decide) (by decide) (fun _ => rfl) (Or.inl rfl)
theorem D_on {c : cd_S} {m : ob_S} (h : rP_ c m) : rA_ (f_X6_start c) (ob_i (f_X7_begins m) 15 1) := by
  obtain ⟨hM, hT, ⟨n, n1, n2, n3, n4⟩, ⟨o1, o2, o3, o4, o5, o6⟩, e1, e2⟩ := h
  refine ⟨hM, hT, ⟨n, n1, n2, n3, n4, lk_n n3 n1⟩, ⟨rfl, Or.inl ⟨rfl, rfl⟩⟩, ⟨rfl, Or.inl rfl, rfl, rfl, Or.inl rfl, ?_, fun z => absurd z (by show ¬ 0 < (0 : Int32).toInt; decide)⟩, ⟨rfl, rfl, Or.inl rfl, Or.inl ⟨rfl, rfl⟩, Or.inl ⟨rfl, rfl⟩⟩, ⟨rfl, rfl, rfl, by show 0 ≤ (0 : Int32).toInt ∧ (0 : Int32).toInt < 3; decide, by show 0 ≤ (0 : Int32).toInt ∧ (0 : Int32).toInt < 4; decide, by show 0 ≤ (0 : Int32).toInt ∧ (0 : Int32).toInt < 16; decide⟩, ⟨o1, o2, o3, o4, o5, o6, rfl, rfl, rfl, Or.inr ⟨rfl, rfl, ?_⟩, if_01 _⟩, ?_⟩
  · show 0 ≤ (0 : Int32).toInt ∧ 0 ≤ (m.1 27).toInt ∧ (m.1 27).toInt + (0 : Int32).toInt ≤ 64
    rw [z_t]; omega
  · show (if (c 3).1 1 ≤ 0 then (0 : Int32) else 1) = (if m.1 11 ≤ 0 then 0 else 1)
    rw [n2, n3]
  · exact rX_of (s := 0) rfl (by decide) (by decide) (by decide) (fun _ => rfl) (Or.inl rfl)
theorem C_0 {c : cd_S} {m : ob_S} (h : rA_ c m) (on : ¬ m.1 15 = 0) (a : Int32) : eq_ (f_X6_reset c) (f_X7_first m 0 a) := by
  have h2 := T_cut h
  have on2 : (f_X7_cuts m).1 15 = 1 := by
    have z : (f_X7_cuts m).1 15 = m.1 15 := by
      have w1 := pw_eq h
      have w2 := pw_eq h2
      have w3 : (f_X6_tearUnfinished c) 0 = c 0 := by
        unfold f_X6_tearUnfinished
        repeat' split
        all_goals rfl
      rw [← w1, ← w2]
      show (if ((f_X6_tearUnfinished c) 0).1 12 = -1 then (0 : Int32) else 1) = (if (c 0).1 12 = -1 then 0 else 1)
      rw [w3]
    rw [z]; exact (on_of h on).1
  have e2 : f_X7_first m 0 a = (0, f_X7_begins (f_X7_cuts m)) := if_pos rfl
  have e3 : ob_i (f_X7_begins (f_X7_cuts m)) 15 1 = f_X7_begins (f_X7_cuts m) := ob_same on2
  rw [e2, ← e3]
  exact ⟨rfl, D_on (rP_of h2)⟩
theorem T_power {c : cd_S} {m : ob_S} (h : rA_ c m) (x : Int32) : eq_ (f_X6_power c x) (f_X7_power m x) := by
  by_cases a : f_X6_isOutside x 0 1 = 0
  rotate_left
  · have e1 : f_X6_power c x = (-1, c) := if_neg a
    have e2 : f_X7_power m x = (-1, m) := if_pos (in_no (by decide) (by decide) a)
    rw [e1, e2]; exact ⟨rfl, h⟩
  have a2 := in_yes (A := 0) (B := 1) (by decide) (by decide) a
  have pw := pw_eq h
  have on01 : m.1 15 = 0 ∨ m.1 15 = 1 := by
    rcases h.2.2.2.2.2.2.2.1.2.2.2.2.2.2.2.2.2.1 with z | z
    · exact Or.inl z.1
    · exact Or.inr z.1
  have x01 : x = 0 ∨ x = 1 := by
    have l := os_t a
    rw [z_t, o_t] at l
    rcases (show x.toInt = 0 ∨ x.toInt = 1 by omega) with z | z
    · exact Or.inl (Int32.toInt_inj.mp (by rw [z, z_t]))
    · exact Or.inr (Int32.toInt_inj.mp (by rw [z, o_t]))
  rcases x01 with y | y
  · subst y
    rcases on01 with z | z
    · have e1 : f_X6_power c 0 = (-2, c) := (if_pos a).trans (if_pos (by rw [pw, z]; rfl))
      have e2 : f_X7_power m 0 = (-2, m) := (if_neg a2).trans (if_pos (by rw [z]; rfl))
      rw [e1, e2]; exact ⟨rfl, h⟩
    · have e1 : f_X6_power c 0 = (1, f_X6_goDark (f_X6_tearUnfinished c)) := (if_pos a).trans ((if_neg (by rw [pw, z]; decide)).trans (if_neg (by decide)))
      have e2 : f_X7_power m 0 = (1, ob_i (f_X7_begins (f_X7_cuts m)) 15 0) := (if_neg a2).trans ((if_neg (by rw [z]; decide)).trans (if_neg (by rw [z]; decide)))
      rw [e1, e2]
      exact ⟨rfl, D_off (rP_of (T_cut h))⟩
  · subst y
    rcases on01 with z | z
    · have e1 : f_X6_power c 1 = (1, f_X6_start c) := (if_pos a).trans ((if_neg (by rw [pw, z]; decide)).trans (if_pos rfl))
      have e2 : f_X7_power m 1 = (1, ob_i (f_X7_begins m) 15 1) := (if_neg a2).trans ((if_neg (by rw [z]; decide)).trans (if_pos z))
      rw [e1, e2]
      exact ⟨rfl, D_on (rP_of h)⟩
    · have e1 : f_X6_power c 1 = (-2, c) := (if_pos a).trans (if_pos (by rw [pw, z]; rfl))
      have e2 : f_X7_power m 1 = (-2, m) := (if_neg a2).trans (if_pos (by rw [z]; rfl))
      rw [e1, e2]; exact ⟨rfl, h⟩
/-- a new card: only the text, the heat, the two rows' equal ends are asked of what was before -/
theorem T_renew {c : cd_S} {m : ob_S} (hT : rT_ (c 2) m) (hh : (c 0).1 11 = m.1 2) (hh2 : 0 ≤ (m.1 2).toInt ∧ (m.1 2).toInt < 16) (h0 : fl_ ((c 1).2 0) 0 64 65535 = fl_ (m.2 9) 0 64 65535) (h1 : fl_ ((c 1).2 1) 0 64 0 = fl_ (m.2 10) 0 64 0) (h01 : ∀ i, fl_ (m.2 10) 0 64 0 i = 0 ∨ fl_ (m.2 10) 0 64 0 i = 1) (he : 0 ≤ (m.1 27).toInt ∧ (m.1 27).toInt ≤ 64) {B G : Nat} (b1 : 4 ≤ B) (b2 : B ≤ 64) (g1 : 1 ≤ G) (g2 : G ≤ 8) (x3 x4 : Int32) :
    eq_ (nI B, f_X6_renew c (nI B) (nI G) x3 x4) (k_X7_make_97 (nI B) 65 0 (ob_i (ob_i (ob_i (ob_i (ob_i (ob_i (ob_i (ob_i m 3 (nI B)) 4 (nI G)) 5 x3) 6 x4) 7 0) 8 0) 11 0) 13 0)) := by
  have e2 := mk_loop (nI B) 65 0 (ob_i (ob_i (ob_i (ob_i (ob_i (ob_i (ob_i (ob_i m 3 (nI B)) 4 (nI G)) 5 x3) 6 x4) 7 0) 8 0) 11 0) 13 0) (by decide) (by decide)
  have z0 : nI 0 = 0 := rfl
  rw [z0] at e2
  rw [e2]
  generalize hm2 : ob_i (f2_ (ob_i (ob_i (ob_i (ob_i (ob_i (ob_i (ob_i (ob_i m 3 (nI B)) 4 (nI G)) 5 x3) 6 x4) 7 0) 8 0) 11 0) 13 0) 9 10 0 64 65535 0) 15 0 = m2
  have e15 : ob_i (f_X7_begins m2) 15 0 = f_X7_begins m2 := ob_same (by rw [← hm2]; rfl)
  rw [← e15]
  have cl := cl_loop 65 0 (ob_i (ob_i (ob_i (c 1) 4 (if 0 < (if 64 < nI B then 64 else nI B) then (if 64 < nI B then 64 else nI B) else 0)) 5 (if 1 < nI G then nI G else 1)) 3 0) (by decide) (by decide)
  rw [z0] at cl
  have c64 : ¬ (64 : Int32) < nI B := fun z => by have := (nI_ltI (a := 64) (by decide) (by omega)).mp z; omega
  have eB : (if 0 < (if 64 < nI B then 64 else nI B) then (if 64 < nI B then 64 else nI B) else (0 : Int32)) = nI B := by
    rw [if_neg c64]; exact mx_nI (by omega)
  have eG : (if 1 < nI G then nI G else (1 : Int32)) = nI G := by
    by_cases q : 1 < G
    · exact if_pos ((nI_ltI (a := 1) (by decide) (by omega)).mpr q)
    · have : G = 1 := by omega
      subst this; rfl
  rw [eB, eG] at cl
  have e1 : f_X6_renew c (nI B) (nI G) x3 x4 = f_X6_goDark (cd_i (cd_i (va_up (va_up (cd_i (cd_i c 7 x3) 8 x4) 1 (f2_ (ob_i (ob_i (ob_i (c 1) 4 (nI B)) 5 (nI G)) 3 0) 0 1 0 64 65535 0)) 3 (ob_i (c 3) 1 0)) 9 0) 10 0) := by
    show f_X6_goDark (cd_i (cd_i (va_up (va_up (cd_i (cd_i c 7 x3) 8 x4) 1 (k_X3_clear_30 65 0 (ob_i (ob_i (ob_i (c 1) 4 (if 0 < (if 64 < nI B then 64 else nI B) then (if 64 < nI B then 64 else nI B) else 0)) 5 (if 1 < nI G then nI G else 1)) 3 0))) 3 (ob_i (c 3) 1 0)) 9 0) 10 0) = _
    rw [eB, eG, cl]
  refine ⟨rfl, ?_⟩
  show rA_ (f_X6_renew c (nI B) (nI G) x3 x4) (ob_i (f_X7_begins m2) 15 0)
  rw [e1]
  apply D_off
  rw [← hm2]
  refine ⟨⟨⟨B, b1, b2, rfl, rfl⟩, ⟨G, g1, g2, rfl, rfl⟩, h0, h1, h01, 0, by decide, rfl, rfl, rfl, List.nodup_nil, fun x hx => absurd hx List.not_mem_nil⟩, hT, ⟨0, by decide, rfl, rfl, rfl⟩, ⟨rfl, rfl, rfl, rfl, hh, hh2⟩, he⟩
theorem T_make {c : cd_S} {m : ob_S} (h : rA_ c m) (x1 x2 x3 x4 : Int32) : eq_ (f_X6_make c x1 x2 x3 x4) (f_X7_make m x1 x2 x3 x4) := by
  by_cases a1 : f_X6_isOutside x1 4 64 = 0
  rotate_left
  · have e1 : f_X6_make c x1 x2 x3 x4 = (-1, c) := if_neg a1
    have e2 : f_X7_make m x1 x2 x3 x4 = (-1, m) := if_pos (in_no (by decide) (by decide) a1)
    rw [e1, e2]; exact ⟨rfl, h⟩
  have b1 := in_yes (A := 4) (B := 64) (by decide) (by decide) a1
  by_cases a2 : f_X6_isOutside x2 1 8 = 0
  rotate_left
  · have e1 : f_X6_make c x1 x2 x3 x4 = (-1, c) := (if_pos a1).trans (if_neg a2)
    have e2 : f_X7_make m x1 x2 x3 x4 = (-1, m) := (if_neg b1).trans (if_pos (in_no (by decide) (by decide) a2))
    rw [e1, e2]; exact ⟨rfl, h⟩
  have b2 := in_yes (A := 1) (B := 8) (by decide) (by decide) a2
  by_cases a3 : f_X6_isOutside x3 0 9 = 0
  rotate_left
  · have e1 : f_X6_make c x1 x2 x3 x4 = (-1, c) := (if_pos a1).trans ((if_pos a2).trans (if_neg a3))
    have e2 : f_X7_make m x1 x2 x3 x4 = (-1, m) := (if_neg b1).trans ((if_neg b2).trans (if_pos (in_no (by decide) (by decide) a3)))
    rw [e1, e2]; exact ⟨rfl, h⟩
  have b3 := in_yes (A := 0) (B := 9) (by decide) (by decide) a3
  by_cases a4 : f_X6_isOutside x4 0 65535 = 0
  rotate_left
  · have e1 : f_X6_make c x1 x2 x3 x4 = (-1, c) := (if_pos a1).trans ((if_pos a2).trans ((if_pos a3).trans (if_neg a4)))
    have e2 : f_X7_make m x1 x2 x3 x4 = (-1, m) := (if_neg b1).trans ((if_neg b2).trans ((if_neg b3).trans (if_pos (in_no (by decide) (by decide) a4))))
    rw [e1, e2]; exact ⟨rfl, h⟩
  have b4 := in_yes (A := 0) (B := 65535) (by decide) (by decide) a4
  have e1 : f_X6_make c x1 x2 x3 x4 = (x1, f_X6_renew c x1 x2 x3 x4) := (if_pos a1).trans ((if_pos a2).trans ((if_pos a3).trans (if_pos a4)))
  have e2 : f_X7_make m x1 x2 x3 x4 = k_X7_make_97 x1 65 0 (ob_i (ob_i (ob_i (ob_i (ob_i (ob_i (ob_i (ob_i m 3 x1) 4 x2) 5 x3) 6 x4) 7 0) 8 0) 11 0) 13 0) := (if_neg b1).trans ((if_neg b2).trans ((if_neg b3).trans (if_neg b4)))
  rw [e1, e2]
  have l1 := os_t a1
  have l2 := os_t a2
  have t4 : (4 : Int32).toInt = 4 := by decide
  have t64 : (64 : Int32).toInt = 64 := by decide
  have t8 : (8 : Int32).toInt = 8 := by decide
  rw [t4, t64] at l1
  rw [o_t, t8] at l2
  obtain ⟨B, B1, rfl, B3⟩ := of_rng (n := 64) (show 0 ≤ x1.toInt by omega) (by omega)
  obtain ⟨G, G1, rfl, G3⟩ := of_rng (n := 8) (show 0 ≤ x2.toInt by omega) (by omega)
  have hp := rP_of h
  obtain ⟨⟨_, _, c9, c10, zz, _⟩, hT, _, ⟨_, _, _, _, o5, o6⟩, he⟩ := hp
  exact T_renew hT o5 o6 (by rw [c9]) (by rw [c10]) (fl_01 zz (Or.inl rfl)) he (by omega) (by omega) (by omega) (by omega) x3 x4
