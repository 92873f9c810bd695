/-! Commands, one by one -/
theorem q0_of {m : ob_S} (hX : rX_ m) (h6 : ¬ m.1 16 = 6) (h7 : ¬ m.1 16 = 7) : m.1 23 = 0 := by
  rcases hX.2.2.1 with q | q | q
  · exact q
  · exact absurd q h6
  · exact absurd q h7
/-- only the state is new -/
theorem rA_st {c : cd_S} {m : ob_S} (h : rA_ c m) (on : ¬ m.1 15 = 0) {s : Nat} (h8 : s < 8) (h5 : s ≠ 5) (h6 : s ≠ 6) (hq : m.1 23 = 0 ∨ s = 7) : rA_ (cd_i c 12 (nI s)) (ob_i m 16 (nI s)) := by
  obtain ⟨on1, q12, q16⟩ := on_of h on
  obtain ⟨hM, hT, hW, hQ, hE, hS, hK, hO, hX⟩ := h
  obtain ⟨o1, o2, o3, o4, o5, o6, o7, o8, o9, o10, o11⟩ := hO
  exact ⟨hM, hT, hW, hQ, hE, hS, hK, ⟨o1, o2, o3, o4, o5, o6, o7, o8, o9, Or.inr ⟨on1, rfl, q16⟩, o11⟩, rX_of (s := s) rfl h8 h5 h6 (fun z => absurd z on) hq⟩
theorem C_1 {c : cd_S} {m : ob_S} (h : rA_ c m) (on : ¬ m.1 15 = 0) (s0 : m.1 16 = 0) (a : Int32) : eq_ (f_X6_wake c) (f_X7_first m 1 a) := by
  obtain ⟨on1, q12, q16⟩ := on_of h on
  obtain ⟨hM, hT, hW, hQ, hE, hS, hK, hO, hX⟩ := id h
  obtain ⟨o1, o2, o3, o4, o5, o6, o7, o8, o9, o10, o11⟩ := hO
  have q0 := q0_of hX (by rw [s0]; decide) (by rw [s0]; decide)
  have e2 : f_X7_first m 1 a = ((if m.1 31 + 1 ≤ m.1 5 then 0 else 1), ob_i (ob_i m 31 (m.1 31 + 1)) 16 (if m.1 31 + 1 ≤ m.1 5 then 0 else 1)) := (if_neg (by decide)).trans (if_pos rfl)
  rw [e2]
  by_cases k : m.1 31 + 1 ≤ m.1 5
  · have e1 : f_X6_wake c = (0, cd_i c 15 ((c 0).1 15 + 1)) := if_neg (by rw [o1, o9, Int32.lt_iff_toInt_lt]; have := le_t k; omega)
    rw [e1, if_pos k]
    refine ⟨rfl, hM, hT, hW, hQ, hE, hS, hK, ⟨o1, o2, o3, o4, o5, o6, o7, o8, by show (c 0).1 15 + 1 = m.1 31 + 1; rw [o9], Or.inr ⟨on1, q12.trans s0, q16⟩, o11⟩, ?_⟩
    exact rX_of (s := 0) rfl (by decide) (by decide) (by decide) (fun z => absurd z on) (Or.inl q0)
  · have e1 : f_X6_wake c = (1, cd_i (cd_i c 15 ((c 0).1 15 + 1)) 12 1) := if_pos (by rw [o1, o9, Int32.lt_iff_toInt_lt]; have := nle_t k; omega)
    rw [e1, if_neg k]
    refine ⟨rfl, hM, hT, hW, hQ, hE, hS, hK, ⟨o1, o2, o3, o4, o5, o6, o7, o8, by show (c 0).1 15 + 1 = m.1 31 + 1; rw [o9], Or.inr ⟨on1, rfl, q16⟩, o11⟩, ?_⟩
    exact rX_of (s := 1) rfl (by decide) (by decide) (by decide) (fun z => absurd z on) (Or.inl q0)
theorem C_2 {c : cd_S} {m : ob_S} (h : rA_ c m) (on : ¬ m.1 15 = 0) (s0 : m.1 16 = 1) (a : Int32) : eq_ (f_X6_tellNumber c) (f_X7_first m 2 a) := by
  have e2 : f_X7_first m 2 a = (m.1 6, ob_i m 16 2) := (if_neg (by decide)).trans ((if_neg (by decide)).trans (if_pos rfl))
  rw [e2]
  refine ⟨h.2.2.2.2.2.2.2.1.2.1, ?_⟩
  exact rA_st h on (s := 2) (by decide) (by decide) (by decide) (Or.inl (q0_of h.2.2.2.2.2.2.2.2 (by rw [s0]; decide) (by rw [s0]; decide)))
theorem C_3 {c : cd_S} {m : ob_S} (h : rA_ c m) (on : ¬ m.1 15 = 0) (s0 : m.1 16 = 2 ∨ m.1 16 = 3) (a : Int32) : eq_ (f_X6_takeAddress c) (f_X7_first m 3 a) := by
  obtain ⟨on1, q12, q16⟩ := on_of h on
  obtain ⟨hM, hT, hW, hQ, hE, hS, hK, hO, hX⟩ := id h
  obtain ⟨o1, o2, o3, o4, o5, o6, o7, o8, o9, o10, o11⟩ := hO
  have q0 := q0_of hX (by rcases s0 with z | z <;> rw [z] <;> decide) (by rcases s0 with z | z <;> rw [z] <;> decide)
  have e2 : f_X7_first m 3 a = (m.1 17 + 1, ob_i (ob_i m 17 (m.1 17 + 1)) 16 3) := (if_neg (by decide)).trans ((if_neg (by decide)).trans ((if_neg (by decide)).trans (if_pos rfl)))
  rw [e2]
  refine ⟨by show (c 0).1 13 + 1 = m.1 17 + 1; rw [o7], hM, hT, hW, hQ, hE, hS, hK, ⟨o1, o2, o3, o4, o5, o6, by show (c 0).1 13 + 1 = m.1 17 + 1; rw [o7], o8, o9, Or.inr ⟨on1, rfl, q16⟩, o11⟩, ?_⟩
  exact rX_of (s := 3) rfl (by decide) (by decide) (by decide) (fun z => absurd z on) (Or.inl q0)
theorem C_7 {c : cd_S} {m : ob_S} (h : rA_ c m) (on : ¬ m.1 15 = 0) (s0 : m.1 16 = 3 ∨ m.1 16 = 4) (a : Int32) : eq_ (f_X6_choose c a) (f_X7_first m 7 a) := by
  obtain ⟨on1, q12, q16⟩ := on_of h on
  have q0 := q0_of h.2.2.2.2.2.2.2.2 (by rcases s0 with z | z <;> rw [z] <;> decide) (by rcases s0 with z | z <;> rw [z] <;> decide)
  have o7 : (c 0).1 13 = m.1 17 := h.2.2.2.2.2.2.2.1.2.2.2.2.2.2.1
  have e2 : f_X7_first m 7 a = f_X7_chooses m a := (if_neg (by decide)).trans ((if_neg (by decide)).trans ((if_neg (by decide)).trans ((if_neg (by decide)).trans ((if_neg (by decide)).trans (if_pos rfl)))))
  have r3 := rA_st h on (s := 3) (by decide) (by decide) (by decide) (Or.inl q0)
  have r4 := rA_st h on (s := 4) (by decide) (by decide) (by decide) (Or.inl q0)
  rw [e2]
  unfold f_X6_choose f_X7_chooses
  dsimp only
  rw [o7, q12]
  by_cases k : a = m.1 17
  · rw [if_pos k, if_pos k]
    rcases s0 with z | z
    · rw [z, if_pos rfl, if_neg (by decide), if_neg (by decide), if_pos k]
      exact ⟨rfl, r4⟩
    · rw [z, if_neg (by decide), if_neg (by decide), if_pos rfl]
      refine ⟨rfl, ?_⟩
      have : ob_i m 16 4 = m := by
        unfold ob_i
        congr 1
        funext j
        by_cases e : j = 16
        · subst e; rw [pk_us]; exact z.symm
        · exact pk_un e
      rw [this]
      exact h
  · rw [if_neg k, if_neg k]
    rcases s0 with z | z
    · rw [z, if_pos rfl, if_pos rfl, if_pos rfl, if_neg (by decide), if_neg k]
      exact ⟨rfl, r3⟩
    · rw [z, if_neg (by decide), if_pos rfl, if_pos rfl]
      exact ⟨rfl, r3⟩
theorem C_12 {c : cd_S} {m : ob_S} (h : rA_ c m) (on : ¬ m.1 15 = 0) (s0 : m.1 16 = 5 ∨ m.1 16 = 6) (a : Int32) : eq_ (f_X6_stop c) (f_X7_first m 12 a) := by
  have hQ := h.2.2.2.1
  have e2 : f_X7_first m 12 a = f_X7_stops m := (if_neg (by decide)).trans ((if_neg (by decide)).trans ((if_neg (by decide)).trans ((if_neg (by decide)).trans ((if_neg (by decide)).trans ((if_neg (by decide)).trans (if_pos rfl))))))
  have ey : (if m.1 16 = 6 then m.1 23 else 0) = m.1 23 := by
    rcases s0 with z | z
    · rw [if_neg (by rw [z]; decide)]
      exact (q0_of h.2.2.2.2.2.2.2.2 (by rw [z]; decide) (by rw [z]; decide)).symm
    · exact if_pos z
  rw [e2]
  unfold f_X6_stop f_X7_stops f_X4_size
  dsimp only
  rw [ey, hQ.1]
  by_cases k : m.1 23 ≤ 0
  · rw [if_pos k]
    have q0 : m.1 23 = 0 := by
      rcases hQ.2 with q | q | q
      · exact q.1
      · rw [q.1] at k; exact absurd k (by decide)
      · rw [q.1] at k; exact absurd k (by decide)
    exact ⟨rfl, rA_st h on (s := 4) (by decide) (by decide) (by decide) (Or.inl q0)⟩
  · rw [if_neg k]
    exact ⟨rfl, rA_st h on (s := 7) (by decide) (by decide) (by decide) (Or.inr rfl)⟩
theorem C_13 {c : cd_S} {m : ob_S} (h : rA_ c m) (on : ¬ m.1 15 = 0) (a : Int32) : eq_ (f_X6_tellStatus c a) (f_X7_first m 13 a) := by
  obtain ⟨on1, q12, q16⟩ := on_of h on
  obtain ⟨hM, hT, hW, hQ, hE, hS, hK, hO, hX⟩ := id h
  obtain ⟨o1, o2, o3, o4, o5, o6, o7, o8, o9, o10, o11⟩ := hO
  have e2 : f_X7_first m 13 a = (if a = m.1 17 then f_X7_status m else (-4, m)) := (if_neg (by decide)).trans ((if_neg (by decide)).trans ((if_neg (by decide)).trans ((if_neg (by decide)).trans ((if_neg (by decide)).trans ((if_neg (by decide)).trans (if_neg (by decide)))))))
  rw [e2]
  unfold f_X6_tellStatus f_X7_status
  rw [o7]
  by_cases k : a = m.1 17
  · rw [if_pos k, if_pos k]
    refine ⟨?_, hM, hT, hW, hQ, hE, hS, hK, ⟨o1, o2, o3, o4, o5, o6, o7, rfl, o9, o10, o11⟩, hX⟩
    show 256 * (c 0).1 12 + 128 * f_X6_asNumber ((c 0).1 16) + (c 0).1 14 = 256 * m.1 16 + (if m.1 21 = 0 then 0 else 128) + m.1 22
    rw [q12, q16, o8]
    rcases o11 with z | z <;> rw [z] <;> rfl
  · rw [if_neg k, if_neg k]
    exact ⟨rfl, h⟩
theorem a_nI {a : Int32} (h : f_X6_isOutside a 0 65535 = 0) : ∃ k : Nat, k ≤ 65535 ∧ a = nI k := by
  have h1 := os_t h
  have e : (65535 : Int32).toInt = 65535 := by decide
  rw [z_t, e] at h1
  obtain ⟨k, k1, k2, _⟩ := of_rng (n := 65535) h1.1 h1.2
  exact ⟨k, k1, k2⟩
theorem C_6 {c : cd_S} {m : ob_S} (h : rA_ c m) {a : Int32} (ha : f_X6_isOutside a 0 65535 = 0) : eq_ (f_X6_switchLines c a) (f_X7_first m 6 a) := by
  obtain ⟨hM, hT, hW, hQ, hE, hS, hK, hO, hX⟩ := id h
  obtain ⟨k, k1, rfl⟩ := a_nI ha
  have d1 : nI k / 4 = nI (k / 4) := pk_div (d := 4) (by omega) (by decide) (by decide)
  have d2 : nI k - nI (k / 4) * 4 = nI (k % 4) := by rw [← d1]; exact pk_rem (d := 4) (by omega) (by decide) (by decide)
  have e2 : f_X7_first m 6 (nI k) = (4 * (f_X7_switches m (nI k / 4) (nI k - nI k / 4 * 4)).1 19 + (f_X7_switches m (nI k / 4) (nI k - nI k / 4 * 4)).1 18, f_X7_switches m (nI k / 4) (nI k - nI k / 4 * 4)) := (if_neg (by decide)).trans ((if_neg (by decide)).trans ((if_neg (by decide)).trans ((if_neg (by decide)).trans (if_pos rfl))))
  have e1 : f_X6_switchLines c (nI k) = (if (f_X2_change (c 7) (nI k / 4) (nI k - nI k / 4 * 4)).1 = 0 then (4 * (f_X6_note (va_up c 7 (f_X2_change (c 7) (nI k / 4) (nI k - nI k / 4 * 4)).2) 32 7).1 1 + (f_X6_note (va_up c 7 (f_X2_change (c 7) (nI k / 4) (nI k - nI k / 4 * 4)).2) 32 7).1 0, f_X6_note (va_up c 7 (f_X2_change (c 7) (nI k / 4) (nI k - nI k / 4 * 4)).2) 32) else (4 * (f_X2_change (c 7) (nI k / 4) (nI k - nI k / 4 * 4)).2.1 1 + (f_X2_change (c 7) (nI k / 4) (nI k - nI k / 4 * 4)).2.1 0, va_up c 7 (f_X2_change (c 7) (nI k / 4) (nI k - nI k / 4 * 4)).2)) := rfl
  rw [e1, e2, d1, d2]
  have hm : k % 4 < 4 := Nat.mod_lt _ (by decide)
  have hs0 : k / 4 ≤ 65535 := by omega
  generalize k / 4 = s at *
  generalize k % 4 = l at *
  have bad : f_X2_change (c 7) (nI s) (nI l) = (0, c 7) → f_X7_switches m (nI s) (nI l) = ob_i m 22 (m.1 22 ||| 32) → eq_ (if (f_X2_change (c 7) (nI s) (nI l)).1 = 0 then (4 * (f_X6_note (va_up c 7 (f_X2_change (c 7) (nI s) (nI l)).2) 32 7).1 1 + (f_X6_note (va_up c 7 (f_X2_change (c 7) (nI s) (nI l)).2) 32 7).1 0, f_X6_note (va_up c 7 (f_X2_change (c 7) (nI s) (nI l)).2) 32) else (4 * (f_X2_change (c 7) (nI s) (nI l)).2.1 1 + (f_X2_change (c 7) (nI s) (nI l)).2.1 0, va_up c 7 (f_X2_change (c 7) (nI s) (nI l)).2)) (4 * (f_X7_switches m (nI s) (nI l)).1 19 + (f_X7_switches m (nI s) (nI l)).1 18, f_X7_switches m (nI s) (nI l)) := by
    intro g1 g2
    rw [g1, g2, if_pos rfl]
    have e0 : va_up c 7 (c 7) = c := by
      funext j
      by_cases z : j = 7
      · subst z; exact if_pos rfl
      · exact if_neg z
    have r := rA_note h 32
    show eq_ (4 * (f_X6_note (va_up c 7 (c 7)) 32 7).1 1 + (f_X6_note (va_up c 7 (c 7)) 32 7).1 0, f_X6_note (va_up c 7 (c 7)) 32) _
    rw [e0]
    refine ⟨?_, r⟩
    show 4 * (c 7).1 1 + (c 7).1 0 = 4 * m.1 19 + m.1 18
    rw [hK.1, hK.2.1]
  have good : f_X2_change (c 7) (nI s) (nI l) = (1, ob_i (ob_i (c 7) 1 (nI s)) 0 (nI l)) → f_X7_switches m (nI s) (nI l) = ob_i (ob_i m 19 (nI s)) 18 (nI l) → s ≤ 3 → l ≤ 2 → eq_ (if (f_X2_change (c 7) (nI s) (nI l)).1 = 0 then (4 * (f_X6_note (va_up c 7 (f_X2_change (c 7) (nI s) (nI l)).2) 32 7).1 1 + (f_X6_note (va_up c 7 (f_X2_change (c 7) (nI s) (nI l)).2) 32 7).1 0, f_X6_note (va_up c 7 (f_X2_change (c 7) (nI s) (nI l)).2) 32) else (4 * (f_X2_change (c 7) (nI s) (nI l)).2.1 1 + (f_X2_change (c 7) (nI s) (nI l)).2.1 0, va_up c 7 (f_X2_change (c 7) (nI s) (nI l)).2)) (4 * (f_X7_switches m (nI s) (nI l)).1 19 + (f_X7_switches m (nI s) (nI l)).1 18, f_X7_switches m (nI s) (nI l)) := by
    intro g1 g2 hs hl
    rw [g1, g2, if_neg (show ¬ (1 : Int32) = 0 by decide)]
    refine ⟨rfl, hM, hT, hW, hQ, hE, hS, ⟨rfl, rfl, hK.2.2.1, ?_, ?_, hK.2.2.2.2.2⟩, hO, hX⟩
    · show 0 ≤ (nI l).toInt ∧ (nI l).toInt < 3
      rw [nI_toInt (by omega)]; omega
    · show 0 ≤ (nI s).toInt ∧ (nI s).toInt < 4
      rw [nI_toInt (by omega)]; omega
  have c3 : ((3 : Int32) < nI s) ↔ 3 < s := nI_ltI (a := 3) (by decide) (by omega)
  have c2 : ((2 : Int32) < nI l) ↔ 2 < l := nI_ltI (a := 2) (by decide) (by omega)
  have c1 : (nI s ≤ (1 : Int32)) ↔ s ≤ 1 := nI_leI (b := 1) (by omega) (by decide)
  have c0 : (nI l = (0 : Int32)) ↔ l = 0 := nI_eq (b := 0) (by omega) (by decide)
  by_cases g3 : 3 < nI s
  · exact bad (if_pos g3) (if_pos g3)
  · by_cases g2 : 2 < nI l
    · exact bad ((if_neg g3).trans (if_pos g2)) ((if_neg g3).trans (if_pos g2))
    · rw [c3] at g3
      rw [c2] at g2
      by_cases g0 : nI l = 0
      · by_cases g1 : nI s ≤ 1
        · exact good ((if_neg (by rw [c3]; exact g3)).trans ((if_neg (by rw [c2]; exact g2)).trans ((if_pos g0).trans (if_pos g1)))) ((if_neg (by rw [c3]; exact g3)).trans ((if_neg (by rw [c2]; exact g2)).trans (if_pos g1))) (by omega) (by omega)
        · exact bad ((if_neg (by rw [c3]; exact g3)).trans ((if_neg (by rw [c2]; exact g2)).trans ((if_pos g0).trans (if_neg g1)))) ((if_neg (by rw [c3]; exact g3)).trans ((if_neg (by rw [c2]; exact g2)).trans ((if_neg g1).trans (if_pos g0))))
      · by_cases g1 : nI s ≤ 1
        · exact good ((if_neg (by rw [c3]; exact g3)).trans ((if_neg (by rw [c2]; exact g2)).trans (if_neg g0))) ((if_neg (by rw [c3]; exact g3)).trans ((if_neg (by rw [c2]; exact g2)).trans (if_pos g1))) (by omega) (by omega)
        · exact good ((if_neg (by rw [c3]; exact g3)).trans ((if_neg (by rw [c2]; exact g2)).trans (if_neg g0))) ((if_neg (by rw [c3]; exact g3)).trans ((if_neg (by rw [c2]; exact g2)).trans ((if_neg g1).trans (if_neg g0)))) (by omega) (by omega)
theorem C_21a {c : cd_S} {m : ob_S} (h : rA_ c m) {p : Int32} (hp : 0 ≤ p.toInt ∧ p.toInt < 16) : eq_ (f_X6_asNumber (f_X2_isInWindow (ob_i (c 7) 2 p) ((c 0).1 11)), va_up c 7 (ob_i (c 7) 2 p)) (if f_X7_isInWindow (ob_i m 20 p) = 0 then (0, ob_i m 20 p) else (1, ob_i m 20 p)) := by
  obtain ⟨hM, hT, hW, hQ, hE, hS, hK, hO, hX⟩ := id h
  have r : rA_ (va_up c 7 (ob_i (c 7) 2 p)) (ob_i m 20 p) := ⟨hM, hT, hW, hQ, hE, hS, ⟨hK.1, hK.2.1, rfl, hK.2.2.2.1, hK.2.2.2.2.1, hp⟩, hO, hX⟩
  have w0 := win_of r
  have w1 : va_up c 7 (ob_i (c 7) 2 p) 7 = ob_i (c 7) 2 p := rfl
  have w2 : va_up c 7 (ob_i (c 7) 2 p) 0 = c 0 := rfl
  rw [w1, w2] at w0
  have w := w0
  rw [w]
  generalize f_X7_isInWindow (ob_i m 20 p) = W
  by_cases q : W = 0
  · rw [if_pos q, q]; exact ⟨rfl, r⟩
  · have e : f_X6_asNumber W = 1 := if_neg q
    rw [if_neg q, e]; exact ⟨rfl, r⟩
theorem C_21 {c : cd_S} {m : ob_S} (h : rA_ c m) {a : Int32} (ha : f_X6_isOutside a 0 65535 = 0) : eq_ (f_X6_movePoint c a) (f_X7_streams m 21 a) := by
  obtain ⟨k, k1, e⟩ := a_nI ha
  have d2 : a - a / 16 * 16 = nI (k % 16) := by rw [e]; exact pk_rem (d := 16) (by omega) (by decide) (by decide)
  have hm : k % 16 < 16 := Nat.mod_lt _ (by decide)
  have hp : 0 ≤ (a - a / 16 * 16).toInt ∧ (a - a / 16 * 16).toInt < 16 := by
    rw [d2, nI_toInt (by omega)]; omega
  have e2 : f_X7_streams m 21 a = (if f_X7_isInWindow (ob_i m 20 (a - a / 16 * 16)) = 0 then (0, ob_i m 20 (a - a / 16 * 16)) else (1, ob_i m 20 (a - a / 16 * 16))) := if_pos rfl
  rw [e2]
  exact C_21a h hp
theorem C_22 {c : cd_S} {m : ob_S} (h : rA_ c m) (a : Int32) : eq_ ((c 0).1 9, c) (f_X7_streams m 22 a) := by
  have e2 : f_X7_streams m 22 a = (m.1 8, m) := (if_neg (by decide)).trans (if_pos rfl)
  rw [e2]
  exact ⟨h.2.2.2.2.2.2.2.1.2.2.1, h⟩
theorem C_23 {c : cd_S} {m : ob_S} (h : rA_ c m) {a : Int32} (ha : f_X6_isOutside a 0 65535 = 0) : eq_ (f_X6_expect c a) (f_X7_streams m 23 a) := by
  obtain ⟨hM, hT, hW, hQ, hE, hS, hK, hO, hX⟩ := id h
  have e2 : f_X7_streams m 23 a = (a, ob_i m 30 a) := (if_neg (by decide)).trans ((if_neg (by decide)).trans (if_pos rfl))
  rw [e2]
  have l := (os_t ha).1
  rw [z_t] at l
  exact ⟨rfl, hM, hT, hW, hQ, hE, ⟨hS.1, hS.2.1, hS.2.2.1, hS.2.2.2.1, Or.inr ⟨rfl, l⟩⟩, hK, hO, hX⟩
/-- SEND and TAKE -/
theorem C_str {c : cd_S} {m : ob_S} (h : rA_ c m) (on : ¬ m.1 15 = 0) (s4 : m.1 16 = 4) {a : Int32} (ha : f_X6_isOutside a 0 65535 = 0) (x kd one : Int32) (hkd : (if (20 : Int32) ≤ x then 6 else 5) = kd) (h56 : kd = 5 ∨ kd = 6) (hone : (if x = 17 then 1 else if x = 24 then (1 : Int32) else 0) = one) (h01 : one = 0 ∨ one = 1) : eq_ (f_X6_beginStream c kd a one) (f_X7_streamsFrom m x a) := by
  obtain ⟨on1, q12, q16⟩ := on_of h on
  obtain ⟨hM, hT, hW, hQ, hE, hS, hK, hO, hX⟩ := id h
  obtain ⟨o1, o2, o3, o4, o5, o6, o7, o8, o9, o10, o11⟩ := hO
  have q0 := q0_of hX (by rw [s4]; decide) (by rw [s4]; decide)
  have l := (os_t ha).1
  rw [z_t] at l
  obtain ⟨B, b1, b2, b3, b4⟩ := hM.1
  by_cases d : a < m.1 3
  · have nB : iB_ m a := ⟨l, lt_t d⟩
    have hb : ¬ f_X3_has (c 1) a = 0 := fun z => (has_of h a).mp z nB
    have e2 : f_X7_streamsFrom m x a = (0, ob_i (ob_i (ob_i (ob_i (ob_i (ob_i m 16 kd) 35 a) 36 (if one = 0 then (if m.1 30 ≤ 0 then -4 else m.1 30) else 1)) 30 (-4)) 37 0) 8 (if kd = 6 then 0 else m.1 8)) := (if_pos d).trans (by rw [← hkd, ← hone])
    have e1 : f_X6_beginStream c kd a one = (if kd = 6 then (0, cd_i (cd_i (va_up c 6 (f_X5_begin (c 6) a one)) 12 kd) 9 0) else (0, cd_i (va_up c 6 (f_X5_begin (c 6) a one)) 12 kd)) := if_neg hb
    -- the stream
    have key : ∀ z : Int32, rS_ (f_X5_begin (c 6) a one) (ob_i (ob_i (ob_i (ob_i (ob_i (ob_i m 16 kd) 35 a) 36 (if one = 0 then (if m.1 30 ≤ 0 then -4 else m.1 30) else 1)) 30 (-4)) 37 0) 8 z) ∧ ((if one = 0 then (if m.1 30 ≤ 0 then -4 else m.1 30) else 1) = -4 ∨ 1 ≤ (if one = 0 then (if m.1 30 ≤ 0 then -4 else m.1 30) else (1 : Int32)).toInt) := by
      intro z
      have e : f_X5_begin (c 6) a one = ob_i (ob_i (ob_i (ob_i (ob_i (c 6) 1 a) 2 (if one = 0 then (c 6).1 0 else 1)) 3 (if (if one = 0 then (c 6).1 0 else 1) ≤ 0 then 0 else 1)) 4 0) 0 0 := rfl
      rw [e]
      rcases h01 with g | g
      · subst g
        rw [if_pos rfl, if_pos rfl]
        rcases hS.2.2.2.2 with s | s
        · rw [s.1, s.2]
          exact ⟨⟨rfl, rfl, Or.inl rfl, Or.inl ⟨rfl, rfl⟩, Or.inl ⟨rfl, rfl⟩⟩, Or.inl rfl⟩
        · rw [s.1]
          by_cases t : m.1 30 ≤ 0
          · rw [if_pos t, if_pos t]
            exact ⟨⟨rfl, rfl, Or.inl rfl, Or.inl ⟨rfl, rfl⟩, Or.inl ⟨rfl, rfl⟩⟩, Or.inl rfl⟩
          · rw [if_neg t, if_neg t]
            have t1 := nle_t t
            rw [z_t] at t1
            exact ⟨⟨rfl, rfl, Or.inl rfl, Or.inr ⟨rfl, rfl, s.2⟩, Or.inl ⟨rfl, rfl⟩⟩, Or.inr (by omega)⟩
      · subst g
        have n10 : ¬ (1 : Int32) = 0 := by decide
        rw [if_neg n10, if_neg n10]
        exact ⟨⟨rfl, rfl, Or.inl rfl, Or.inr ⟨rfl, rfl, by show 0 ≤ (1 : Int32).toInt; decide⟩, Or.inl ⟨rfl, rfl⟩⟩, Or.inr (by decide)⟩
    have nb2 := nB.2
    rw [e1, e2]
    rcases h56 with g | g
    · subst g
      have n56 : ¬ (5 : Int32) = 6 := by decide
      rw [if_neg n56, if_neg n56]
      refine ⟨rfl, hM, hT, hW, hQ, hE, (key _).1, hK, ⟨o1, o2, o3, o4, o5, o6, o7, o8, o9, Or.inr ⟨on1, rfl, q16⟩, o11⟩, ⟨5, by decide, rfl⟩, fun z => absurd z on, Or.inl q0, fun _ => ⟨l, ?_⟩, fun _ => nb2, fun _ => (key 0).2⟩
      show a.toInt ≤ 64
      rw [b4, nI_toInt (by omega)] at nb2
      omega
    · subst g
      rw [if_pos rfl, if_pos rfl]
      refine ⟨rfl, hM, hT, hW, hQ, hE, (key _).1, hK, ⟨o1, o2, rfl, o4, o5, o6, o7, o8, o9, Or.inr ⟨on1, rfl, q16⟩, o11⟩, ⟨6, by decide, rfl⟩, fun z => absurd z on, Or.inl q0, fun _ => ⟨l, ?_⟩, fun z => absurd z (by show ¬ (6 : Int32) = 5; decide), fun _ => (key 0).2⟩
      show a.toInt ≤ 64
      rw [b4, nI_toInt (by omega)] at nb2
      omega
  · have hb : f_X3_has (c 1) a = 0 := (has_of h a).mpr (fun z => by have := z.2; have := nlt_t d; omega)
    have e1 : f_X6_beginStream c kd a one = f_X6_refuse c 4 := if_pos hb
    have e2 : f_X7_streamsFrom m x a = f_X7_noting m 4 := if_neg d
    rw [e1, e2]
    exact T_ref h 4
