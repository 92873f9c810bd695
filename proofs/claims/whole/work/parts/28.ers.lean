/-! FROM, TO, ERASE -/
theorem C_32 {c : cd_S} {m : ob_S} (h : rA_ c m) {a : Int32} (ha : f_X6_isOutside a 0 65535 = 0) : eq_ (f_X6_eraseFrom c a) (f_X7_erases m 32 a) := by
  obtain ⟨hM, hT, hW, hQ, hE, hS, hK, hO, hX⟩ := id h
  have l := (os_t ha).1
  rw [z_t] at l
  by_cases d : a < m.1 3
  · have nB : iB_ m a := ⟨l, lt_t d⟩
    have e1 : f_X6_eraseFrom c a = (0, va_up c 5 (f_X0_beginFrom (c 5) a)) := if_neg (fun z => (has_of h a).mp z nB)
    have e2 : f_X7_erases m 32 a = (0, ob_i (ob_i m 33 a) 32 1) := (if_pos rfl).trans (if_pos d)
    rw [e1, e2]
    exact ⟨rfl, hM, hT, hW, hQ, ⟨rfl, Or.inr (Or.inl ⟨rfl, rfl, nB⟩), hE.2.2⟩, hS, hK, hO, hX⟩
  · have hb : f_X3_has (c 1) a = 0 := (has_of h a).mpr (fun z => by have := z.2; have := nlt_t d; omega)
    have e1 : f_X6_eraseFrom c a = f_X6_refuse c 4 := if_pos hb
    have e2 : f_X7_erases m 32 a = f_X7_noting m 4 := (if_pos rfl).trans (if_neg d)
    rw [e1, e2]
    exact T_ref h 4
/-- nothing is begun any more -/
theorem rA_fgt {c : cd_S} {m : ob_S} (h : rA_ c m) : rA_ (va_up c 5 (f_X0_forget (c 5))) (ob_i m 32 0) := by
  obtain ⟨hM, hT, hW, hQ, hE, hS, hK, hO, hX⟩ := h
  exact ⟨hM, hT, hW, hQ, ⟨rfl, Or.inl rfl, hE.2.2⟩, hS, hK, hO, hX⟩
theorem C_33 {c : cd_S} {m : ob_S} (h : rA_ c m) {a : Int32} (ha : f_X6_isOutside a 0 65535 = 0) : eq_ (f_X6_eraseTo c a) (f_X7_erases m 33 a) := by
  obtain ⟨hM, hT, hW, hQ, hE, hS, hK, hO, hX⟩ := id h
  have l := (os_t ha).1
  rw [z_t] at l
  have e2 : f_X7_erases m 33 a = f_X7_endsAt m a := (if_neg (by decide)).trans (if_pos rfl)
  rw [e2]
  by_cases d : a < m.1 3
  · have nB : iB_ m a := ⟨l, lt_t d⟩
    have hb : ¬ f_X3_has (c 1) a = 0 := fun z => (has_of h a).mp z nB
    have no : (f_X0_continueTo (c 5) a) = (0, c 5) → f_X7_endsAt m a = f_X7_noting (ob_i m 32 0) 8 → eq_ (f_X6_eraseTo c a) (f_X7_endsAt m a) := by
      intro g1 g2
      have e1 : f_X6_eraseTo c a = f_X6_refuse (va_up (va_up c 5 (c 5)) 5 (f_X0_forget (c 5))) 8 := (if_neg hb).trans (by rw [g1]; rfl)
      rw [e1, g2, bx_uu]
      exact T_ref (rA_fgt h) 8
    by_cases b1 : m.1 32 = 1
    · have fr : (c 5).1 1 = m.1 33 ∧ iB_ m (m.1 33) := by
        rcases hE.2.1 with z | z | z
        · rw [b1] at z; exact absurd z (by decide)
        · exact z.2
        · rw [b1] at z; exact absurd z.1 (by decide)
      have b1' : (c 5).1 0 = 1 := hE.1.trans b1
      by_cases f : m.1 33 ≤ a
      · have g1 : f_X0_continueTo (c 5) a = (1, ob_i (ob_i (c 5) 0 2) 2 a) := (if_pos b1').trans (if_pos (by rw [fr.1]; exact f))
        have e1 : f_X6_eraseTo c a = (0, va_up c 5 (ob_i (ob_i (c 5) 0 2) 2 a)) := (if_neg hb).trans (by rw [g1]; rfl)
        have e3 : f_X7_endsAt m a = (0, ob_i (ob_i (ob_i m 32 0) 34 a) 32 2) := (if_pos d).trans ((if_neg (by rw [if_pos b1]; decide)).trans (if_pos f))
        rw [e1, e3]
        exact ⟨rfl, hM, hT, hW, hQ, ⟨rfl, Or.inr (Or.inr ⟨rfl, fr.1, rfl, fr.2, nB, le_t f⟩), hE.2.2⟩, hS, hK, hO, hX⟩
      · exact no ((if_pos b1').trans (if_neg (by rw [fr.1]; exact f))) ((if_pos d).trans ((if_neg (by rw [if_pos b1]; decide)).trans (if_neg f)))
    · exact no (if_neg (by rw [hE.1]; exact b1)) ((if_pos d).trans (if_pos (if_neg b1)))
  · have hb : f_X3_has (c 1) a = 0 := (has_of h a).mpr (fun z => by have := z.2; have := nlt_t d; omega)
    have e1 : f_X6_eraseTo c a = f_X6_refuse (va_up c 5 (f_X0_forget (c 5))) 4 := if_pos hb
    have e3 : f_X7_endsAt m a = f_X7_noting (ob_i m 32 0) 4 := if_neg d
    rw [e1, e3]
    exact T_ref (rA_fgt h) 4
/-- groups are to be erased from now on -/
theorem C_beg {c : cd_S} {m : ob_S} (h : rA_ c m) (on : ¬ m.1 15 = 0) {f n : Nat} (l : Int32) (hl : l - nI f + 1 = nI n) (hn : f + n ≤ 64) : eq_ (f_X6_beginErasing c (nI f) l) (f_X7_erasesGroups (ob_i m 32 0) (nI f) (nI n)) := by
  obtain ⟨on1, q12, q16⟩ := on_of h on
  obtain ⟨hM, hT, hW, hQ, hE, hS, hK, hO, hX⟩ := id h
  obtain ⟨o1, o2, o3, o4, o5, o6, o7, o8, o9, o10, o11⟩ := hO
  have e1 : f_X6_beginErasing c (nI f) l = (l - nI f + 1, cd_i (va_up c 5 (f_X0_begin (c 5) (nI f) l)) 12 7) := rfl
  have e2 : f_X7_erasesGroups (ob_i m 32 0) (nI f) (nI n) = (nI n, ob_i (ob_i (ob_i (ob_i (ob_i m 32 0) 27 (nI f)) 28 (nI n)) 29 0) 16 7) := rfl
  rw [e1, e2]
  refine ⟨hl, hM, hT, hW, hQ, ⟨rfl, Or.inl rfl, hl, rfl, Or.inl rfl, ?_, fun _ => rfl⟩, hS, hK, ⟨o1, o2, o3, o4, o5, o6, o7, o8, o9, Or.inr ⟨on1, rfl, q16⟩, o11⟩, ?_⟩
  · show 0 ≤ (nI n).toInt ∧ 0 ≤ (nI f).toInt ∧ (nI f).toInt + (nI n).toInt ≤ 64
    rw [nI_toInt (by omega), nI_toInt (by omega)]
    omega
  · exact rX_of (s := 7) rfl (by decide) (by decide) (by decide) (fun z => absurd z on) (Or.inr rfl)
theorem C_38 {c : cd_S} {m : ob_S} (h : rA_ c m) (on : ¬ m.1 15 = 0) (a : Int32) : eq_ (f_X6_erase c) (f_X7_erases m 38 a) := by
  obtain ⟨hM, hT, hW, hQ, hE, hS, hK, hO, hX⟩ := id h
  obtain ⟨⟨B, b1, b2, b3, b4⟩, ⟨G, g1, g2, g3, g4⟩, _⟩ := hM
  by_cases d : m.1 32 = 2
  · have z : (c 5).1 1 = m.1 33 ∧ (c 5).1 2 = m.1 34 ∧ iB_ m (m.1 33) ∧ iB_ m (m.1 34) ∧ (m.1 33).toInt ≤ (m.1 34).toInt := by
      rcases hE.2.1 with z | z | z
      · rw [d] at z; exact absurd z (by decide)
      · rw [d] at z; exact absurd z.1 (by decide)
      · exact z.2
    obtain ⟨z1, z2, z3, z4, z5⟩ := z
    obtain ⟨f, f1, f2⟩ := iB_nI h z3
    obtain ⟨t, t1, t2⟩ := iB_nI h z4
    rw [f2, t2, nI_toInt (by omega), nI_toInt (by omega)] at z5
    have g5 : ¬ (c 1).1 5 ≤ 0 := by rw [g3]; exact nI_nle (by omega) (by omega)
    have df : m.1 33 / m.1 4 = nI (f / G) := by rw [f2, g4]; exact pk_div (by omega) (by omega) (by omega)
    have dt : m.1 34 / m.1 4 = nI (t / G) := by rw [t2, g4]; exact pk_div (by omega) (by omega) (by omega)
    have gf : f_X3_groupOf (c 1) (f_X0_from (c 5)) = nI (f / G) := (if_neg g5).trans (by show (c 5).1 1 / (c 1).1 5 = _; rw [z1, g3, ← g4]; exact df)
    have gt : f_X3_groupOf (c 1) (f_X0_to (c 5)) = nI (t / G) := (if_neg g5).trans (by show (c 5).1 2 / (c 1).1 5 = _; rw [z2, g3, ← g4]; exact dt)
    have r : ¬ f_X0_isReady (c 5) = 0 := by
      have e : f_X0_isReady (c 5) = 1 := if_pos (hE.1.trans d)
      rw [e]; decide
    have hle : f / G ≤ t / G := Nat.div_le_div_right (by omega)
    have htG : t / G < 64 := Nat.lt_of_le_of_lt (Nat.div_le_self t G) t1
    have en : nI (t / G) - nI (f / G) + 1 = nI (t / G - f / G + 1) := by rw [pk_sub hle, nI_s]
    have e1 : f_X6_erase c = f_X6_beginErasing c (nI (f / G)) (nI (t / G)) := (if_neg r).trans (by rw [gf, gt])
    have e2 : f_X7_erases m 38 a = f_X7_erasesGroups (ob_i m 32 0) (nI (f / G)) (nI (t / G - f / G + 1)) := (if_neg (by decide)).trans ((if_neg (by decide)).trans ((if_pos rfl).trans ((if_pos d).trans (by rw [df, dt, en]))))
    rw [e1, e2]
    exact C_beg h on (nI (t / G)) en (by omega)
  · have r : f_X0_isReady (c 5) = 0 := if_neg (by rw [hE.1]; exact d)
    have e1 : f_X6_erase c = f_X6_refuse c 8 := if_pos r
    have e2 : f_X7_erases m 38 a = f_X7_noting m 8 := (if_neg (by decide)).trans ((if_neg (by decide)).trans ((if_pos rfl).trans (if_neg d)))
    rw [e1, e2]
    exact T_ref h 8
/-! LOCK -/
theorem tw_of {c : cd_S} {m : ob_S} (h : rA_ c m) : ∃ p q, tw_ (c 2) (c 3) m p q ∧ (¬ m.1 21 = 0 → 0 < p) := by
  obtain ⟨_, ⟨q, q1, q2, q3, q4⟩, ⟨p, p1, p2, p3, p4, p5⟩, _⟩ := h
  exact ⟨p, q, ⟨q2, q3, p2, p3, q1, p1, q4, p4⟩, p5⟩
theorem ob_same {m : ob_S} {k : Nat} {v : Int32} (e : m.1 k = v) : ob_i m k v = m := by
  unfold ob_i
  have : upd m.1 k v = m.1 := by
    funext j
    by_cases z : j = k
    · subst z; rw [pk_us]; exact e.symm
    · exact pk_un z
  rw [this]
theorem rA_lock {c : cd_S} {m : ob_S} (h : rA_ c m) (on : ¬ m.1 15 = 0) {v : Int32} (hv : v = 0 ∨ v = 1 ∧ ¬ m.1 11 = 0) : rA_ (cd_i c 16 v) (ob_i m 21 v) := by
  obtain ⟨on1, q12, q16⟩ := on_of h on
  obtain ⟨hM, hT, ⟨p, p1, p2, p3, p4, p5⟩, hQ, hE, hS, hK, hO, hX⟩ := h
  obtain ⟨o1, o2, o3, o4, o5, o6, o7, o8, o9, o10, o11⟩ := hO
  refine ⟨hM, hT, ⟨p, p1, p2, p3, p4, fun z => ?_⟩, hQ, hE, hS, hK, ⟨o1, o2, o3, o4, o5, o6, o7, o8, o9, Or.inr ⟨on1, q12, rfl⟩, ?_⟩, hX⟩
  · rcases hv with w | w
    · exact absurd w z
    · rcases Nat.eq_zero_or_pos p with y | y
      · exfalso; apply w.2; rw [p3, y]; rfl
      · exact y
  · rcases hv with w | w
    · exact Or.inl w
    · exact Or.inr w.1
theorem lk_01 {c : cd_S} {m : ob_S} (h : rA_ c m) : m.1 21 = 0 ∨ m.1 21 = 1 := h.2.2.2.2.2.2.2.1.2.2.2.2.2.2.2.2.2.2
theorem L_0 {c : cd_S} {m : ob_S} (h : rA_ c m) (on : ¬ m.1 15 = 0) : eq_ (f_X6_unlock c) (f_X7_locks m 0) := by
  obtain ⟨on1, q12, q16⟩ := on_of h on
  obtain ⟨p, q, tw, hw⟩ := tw_of h
  by_cases k : m.1 21 = 0
  · have e1 : f_X6_unlock c = f_X6_refuse c 16 := if_pos (q16.trans k)
    have e2 : f_X7_locks m 0 = f_X7_noting m 16 := (if_pos rfl).trans ((if_pos k).trans (by
      show f_X7_noting (ob_i m 21 (if m.1 21 = 0 then 0 else 1)) 16 = _
      rw [if_pos k, ob_same k]))
    rw [e1, e2]
    exact T_ref h 16
  · have k1 : m.1 21 = 1 := (lk_01 h).resolve_left k
    have t := ts_eq tw (hw k)
    have e0 : f_X7_locks m 0 = (if (if f_X7_isWord m 0 0 = 0 then (0 : Int32) else 1) = 0 then f_X7_noting (ob_i m 21 (if m.1 21 = 0 then 0 else if (if f_X7_isWord m 0 0 = 0 then (0 : Int32) else 1) = 0 then 1 else 0)) 16 else (1, ob_i m 21 (if m.1 21 = 0 then 0 else if (if f_X7_isWord m 0 0 = 0 then (0 : Int32) else 1) = 0 then 1 else 0))) := (if_pos rfl).trans (if_neg k)
    by_cases z : f_X7_isWord m 0 0 = 0
    · have e1 : f_X6_unlock c = f_X6_refuse c 16 := (if_neg (by rw [q16]; exact k)).trans (if_pos (t.trans z))
      rw [e1, e0, if_pos z, if_neg k, if_pos rfl, if_pos rfl, ob_same k1]
      exact T_ref h 16
    · have e1 : f_X6_unlock c = (1, cd_i c 16 0) := (if_neg (by rw [q16]; exact k)).trans (if_neg (by rw [t]; exact z))
      rw [e1, e0, if_neg z, if_neg k, if_neg (by decide), if_neg (by decide)]
      exact ⟨rfl, rA_lock h on (Or.inl rfl)⟩
theorem L_2 {c : cd_S} {m : ob_S} (h : rA_ c m) (on : ¬ m.1 15 = 0) : eq_ (f_X6_clearSecret c) (f_X7_locks m 2) := by
  obtain ⟨on1, q12, q16⟩ := on_of h on
  obtain ⟨p, q, tw, hw⟩ := tw_of h
  have e0 : f_X7_locks m 2 = (if m.1 21 = 0 then (if m.1 11 ≤ 0 then f_X7_noting (ob_i (ob_i m 21 (if m.1 21 = 0 then 0 else 1)) 11 (m.1 11)) 16 else (if (if f_X7_isWord m 0 0 = 0 then (0 : Int32) else 1) = 0 then f_X7_noting (ob_i (ob_i m 21 (if m.1 21 = 0 then (if (if f_X7_isWord m 0 0 = 0 then (0 : Int32) else 1) = 0 then 0 else (if (2 : Int32) = 4 then 1 else 0)) else 1)) 11 (if (if f_X7_isWord m 0 0 = 0 then (0 : Int32) else 1) = 0 then m.1 11 else (if (2 : Int32) = 2 then 0 else m.1 11))) 16 else (1, ob_i (ob_i m 21 (if m.1 21 = 0 then (if (if f_X7_isWord m 0 0 = 0 then (0 : Int32) else 1) = 0 then 0 else (if (2 : Int32) = 4 then 1 else 0)) else 1)) 11 (if (if f_X7_isWord m 0 0 = 0 then (0 : Int32) else 1) = 0 then m.1 11 else (if (2 : Int32) = 2 then 0 else m.1 11))))) else f_X7_noting (ob_i (ob_i m 21 (if m.1 21 = 0 then 0 else 1)) 11 (m.1 11)) 16) := (if_neg (by decide)).trans ((if_neg (by decide)).trans (if_pos rfl))
  rw [e0]
  by_cases k : m.1 21 = 0
  · rw [if_pos k]
    by_cases w : m.1 11 ≤ 0
    · have t0 : f_X6_textIsSecret c = 0 := if_pos (by show (c 3).1 1 ≤ 0; rw [tw.2.2.1, ← tw.2.2.2.1]; exact w)
      have e1 : f_X6_clearSecret c = f_X6_refuse c 16 := (if_pos (q16.trans k)).trans (if_pos t0)
      rw [e1, if_pos w, if_pos k, ob_same k, ob_same rfl]
      exact T_ref h 16
    · have hp : 0 < p := by
        rcases Nat.eq_zero_or_pos p with z | z
        · exfalso; apply w; rw [tw.2.2.2.1, z]; decide
        · exact z
      have t := ts_eq tw hp
      rw [if_neg w]
      by_cases z : f_X7_isWord m 0 0 = 0
      · have e1 : f_X6_clearSecret c = f_X6_refuse c 16 := (if_pos (q16.trans k)).trans (if_pos (t.trans z))
        rw [e1, if_pos z, if_pos rfl, if_pos k, if_pos rfl, if_pos rfl, ob_same k, ob_same rfl]
        exact T_ref h 16
      · have e1 : f_X6_clearSecret c = (1, va_up c 3 (f_X1_empty 8 (c 3))) := (if_pos (q16.trans k)).trans (if_neg (by rw [t]; exact z))
        rw [e1, if_neg z, if_neg (by decide), if_pos k, if_neg (by decide), if_neg (by decide), if_neg (by decide), if_pos rfl, ob_same k]
        obtain ⟨hM, hT, hW, hQ, hE, hS, hK, hO, hX⟩ := h
        exact ⟨rfl, hM, hT, ⟨0, by decide, rfl, rfl, rfl, fun y => absurd k y⟩, hQ, hE, hS, hK, hO, hX⟩
  · have k1 : m.1 21 = 1 := (lk_01 h).resolve_left k
    have e1 : f_X6_clearSecret c = f_X6_refuse c 16 := if_neg (by rw [q16]; exact k)
    rw [e1, if_neg k, if_neg k, ob_same k1, ob_same rfl]
    exact T_ref h 16
theorem L_4 {c : cd_S} {m : ob_S} (h : rA_ c m) (on : ¬ m.1 15 = 0) : eq_ (f_X6_lock c) (f_X7_locks m 4) := by
  obtain ⟨on1, q12, q16⟩ := on_of h on
  obtain ⟨p, q, tw, hw⟩ := tw_of h
  have e0 : f_X7_locks m 4 = (if m.1 21 = 0 then (if m.1 11 ≤ 0 then f_X7_noting (ob_i (ob_i m 21 (if m.1 21 = 0 then 0 else 1)) 11 (m.1 11)) 16 else (if (if f_X7_isWord m 0 0 = 0 then (0 : Int32) else 1) = 0 then f_X7_noting (ob_i (ob_i m 21 (if m.1 21 = 0 then (if (if f_X7_isWord m 0 0 = 0 then (0 : Int32) else 1) = 0 then 0 else (if (4 : Int32) = 4 then 1 else 0)) else 1)) 11 (if (if f_X7_isWord m 0 0 = 0 then (0 : Int32) else 1) = 0 then m.1 11 else (if (4 : Int32) = 2 then 0 else m.1 11))) 16 else (1, ob_i (ob_i m 21 (if m.1 21 = 0 then (if (if f_X7_isWord m 0 0 = 0 then (0 : Int32) else 1) = 0 then 0 else (if (4 : Int32) = 4 then 1 else 0)) else 1)) 11 (if (if f_X7_isWord m 0 0 = 0 then (0 : Int32) else 1) = 0 then m.1 11 else (if (4 : Int32) = 2 then 0 else m.1 11))))) else f_X7_noting (ob_i (ob_i m 21 (if m.1 21 = 0 then 0 else 1)) 11 (m.1 11)) 16) := (if_neg (by decide)).trans ((if_neg (by decide)).trans ((if_neg (by decide)).trans (if_pos rfl)))
  rw [e0]
  by_cases k : m.1 21 = 0
  · rw [if_pos k]
    by_cases w : m.1 11 ≤ 0
    · have t0 : f_X6_textIsSecret c = 0 := if_pos (by show (c 3).1 1 ≤ 0; rw [tw.2.2.1, ← tw.2.2.2.1]; exact w)
      have e1 : f_X6_lock c = f_X6_refuse c 16 := (if_pos (q16.trans k)).trans (if_pos t0)
      rw [e1, if_pos w, if_pos k, ob_same k, ob_same rfl]
      exact T_ref h 16
    · have hp : 0 < p := by
        rcases Nat.eq_zero_or_pos p with z | z
        · exfalso; apply w; rw [tw.2.2.2.1, z]; decide
        · exact z
      have t := ts_eq tw hp
      rw [if_neg w]
      by_cases z : f_X7_isWord m 0 0 = 0
      · have e1 : f_X6_lock c = f_X6_refuse c 16 := (if_pos (q16.trans k)).trans (if_pos (t.trans z))
        rw [e1, if_pos z, if_pos rfl, if_pos k, if_pos rfl, if_pos rfl, ob_same k, ob_same rfl]
        exact T_ref h 16
      · have e1 : f_X6_lock c = (1, cd_i c 16 1) := (if_pos (q16.trans k)).trans (if_neg (by rw [t]; exact z))
        have e11 : ob_i (ob_i m 21 1) 11 (m.1 11) = ob_i m 21 1 := ob_same rfl
        rw [e1, if_neg z, if_neg (by decide), if_pos k, if_neg (by decide), if_pos rfl, if_neg (by decide), if_neg (by decide), e11]
        exact ⟨rfl, rA_lock h on (Or.inr ⟨rfl, fun y => w (by rw [y]; decide)⟩)⟩
  · have k1 : m.1 21 = 1 := (lk_01 h).resolve_left k
    have e1 : f_X6_lock c = f_X6_refuse c 16 := if_neg (by rw [q16]; exact k)
    rw [e1, if_neg k, if_neg k, ob_same k1, ob_same rfl]
    exact T_ref h 16
theorem L_8 {c : cd_S} {m : ob_S} (h : rA_ c m) (on : ¬ m.1 15 = 0) (b0 : m.1 32 = 0) : eq_ (f_X6_force c) (f_X7_locks m 8) := by
  obtain ⟨on1, q12, q16⟩ := on_of h on
  have e0 : f_X7_locks m 8 = (if m.1 21 = 0 then f_X7_noting m 16 else f_X7_erasesGroups (ob_i (ob_i m 11 0) 21 0) 0 (f_X7_groups (ob_i (ob_i m 11 0) 21 0))) := (if_neg (by decide)).trans ((if_neg (by decide)).trans ((if_neg (by decide)).trans ((if_neg (by decide)).trans ((if_neg (by decide)).trans (if_pos rfl)))))
  rw [e0]
  by_cases k : m.1 21 = 0
  · have e1 : f_X6_force c = f_X6_refuse c 16 := if_pos (q16.trans k)
    rw [e1, if_pos k]
    exact T_ref h 16
  · rw [if_neg k]
    have h2 : rA_ (cd_i (va_up c 3 (f_X1_empty 8 (c 3))) 16 0) (ob_i (ob_i m 11 0) 21 0) := by
      obtain ⟨hM, hT, hW, hQ, hE, hS, hK, hO, hX⟩ := id h
      obtain ⟨o1, o2, o3, o4, o5, o6, o7, o8, o9, o10, o11⟩ := hO
      exact ⟨hM, hT, ⟨0, by decide, rfl, rfl, rfl, fun y => absurd rfl y⟩, hQ, hE, hS, hK, ⟨o1, o2, o3, o4, o5, o6, o7, o8, o9, Or.inr ⟨on1, q12, rfl⟩, Or.inl rfl⟩, hX⟩
    obtain ⟨⟨⟨B, b1, b2, b3, b4⟩, ⟨G, g1, g2, g3, g4⟩, _⟩, _⟩ := id h
    have g5 : ¬ (c 1).1 5 ≤ 0 := by rw [g3]; exact nI_nle (by omega) (by omega)
    have gl : f_X3_groupOf (c 1) (f_X3_size (c 1) - 1) = nI ((B - 1) / G) := (if_neg g5).trans (by
      show ((c 1).1 4 - 1) / (c 1).1 5 = _
      have : nI B - 1 = nI (B - 1) := by rw [show B = (B - 1) + 1 by omega, nI_p]; congr 1
      rw [b3, g3, this]
      exact pk_div (by omega) (by omega) (by omega))
    have gm : f_X7_groups (ob_i (ob_i m 11 0) 21 0) = nI ((B - 1) / G + 1) := by
      show (m.1 3 + m.1 4 - 1) / m.1 4 = _
      have : nI B + nI G - 1 = nI (B - 1 + G) := by rw [nI_add, show B + G = (B - 1 + G) + 1 by omega, nI_p]
      rw [b4, g4, this, pk_div (by omega) (by omega) (by omega), Nat.add_div_right _ (by omega)]
    have hlt : (B - 1) / G < 64 := Nat.lt_of_le_of_lt (Nat.div_le_self _ _) (by omega)
    have e1 : f_X6_force c = f_X6_beginErasing (cd_i (va_up c 3 (f_X1_empty 8 (c 3))) 16 0) (nI 0) (nI ((B - 1) / G)) := (if_neg (by rw [q16]; exact k)).trans (by
      show f_X6_beginErasing (cd_i (va_up c 3 (f_X1_empty 8 (c 3))) 16 0) 0 (f_X3_groupOf (c 1) (f_X3_size (c 1) - 1)) = _
      rw [gl]; rfl)
    have en : nI ((B - 1) / G) - nI 0 + 1 = nI ((B - 1) / G + 1) := by rw [pk_sub (Nat.zero_le _), Nat.sub_zero, nI_s]
    have r := C_beg h2 on (f := 0) (n := (B - 1) / G + 1) (nI ((B - 1) / G)) en (by omega)
    have e32 : ob_i (ob_i (ob_i m 11 0) 21 0) 32 0 = ob_i (ob_i m 11 0) 21 0 := ob_same b0
    rw [e32] at r
    rw [e1, gm]
    exact r
theorem bt_sec {t s : ob_S} {p q : Nat} (ht : t.1 1 = nI q) (hq : q ≤ 200) (hpq : p ≤ q) (h8 : q - p ≤ 8) (hs : s.1 1 = nI p) : ∃ K : ob_S, f_X1_becomeTail 8 200 s t (f_X1_length 8 s) = K ∧ K.1 1 = nI (q - p) ∧ pr_ (K.2 0) (q - p) = pr_ (fun j => t.2 0 (p + j)) (q - p) := by
  have b0 : f_X1_becomeTail 8 200 s t (f_X1_length 8 s) = k_X1_becomeTail_6 8 200 t 201 (nI p) (ob_i s 1 0) := by
    show k_X1_becomeTail_6 8 200 t 201 (s.1 1) (ob_i s 1 0) = _
    rw [hs]
  have e0 : (ob_i s 1 0).1 1 = nI 0 := rfl
  have e1 := bt_loop ht hq 201 p (ob_i s 1 0) 0 (by omega) hpq e0 (by omega)
  refine ⟨_, b0, ?_, ?_⟩
  · rw [e1.1, Nat.zero_add]
  · have e2 := e1.2
    rw [Nat.zero_add] at e2
    rw [e2]
    exact List.nil_append _
theorem L_set {c : cd_S} {m : ob_S} (h : rA_ c m) (on : ¬ m.1 15 = 0) (x v : Int32) (hx : (x = 1 ∧ v = 0) ∨ (x = 5 ∧ v = 1)) : eq_ (f_X6_setSecret c v) (f_X7_locks m x) := by
  obtain ⟨on1, q12, q16⟩ := on_of h on
  obtain ⟨p, q, tw, hw⟩ := tw_of h
  obtain ⟨t1, t2, t3, t4, t5, t6, t7, t8⟩ := id tw
  have e0 : f_X7_locks m x = (if (f_X7_sets m).1 = 0 then f_X7_noting (ob_i (f_X7_sets m).2 21 (if (f_X7_sets m).2.1 21 = 0 then (if (f_X7_sets m).1 = 0 then 0 else (if x = 5 then 1 else 0)) else 1)) 16 else (1, ob_i (f_X7_sets m).2 21 (if (f_X7_sets m).2.1 21 = 0 then (if (f_X7_sets m).1 = 0 then 0 else (if x = 5 then 1 else 0)) else 1))) := by
    rcases hx with y | y
    · rw [y.1]; exact (if_neg (by decide)).trans (if_pos rfl)
    · rw [y.1]; exact (if_neg (by decide)).trans ((if_neg (by decide)).trans ((if_neg (by decide)).trans ((if_neg (by decide)).trans (if_pos rfl))))
  have e5 : (if x = 5 then (1 : Int32) else 0) = v := by
    rcases hx with y | y
    · rw [y.1, y.2]; rfl
    · rw [y.1, y.2]; rfl
  rw [e0]
  have no : f_X6_setSecret c v = f_X6_refuse c 16 → f_X7_sets m = (0, m) → eq_ (f_X6_setSecret c v) (if (f_X7_sets m).1 = 0 then f_X7_noting (ob_i (f_X7_sets m).2 21 (if (f_X7_sets m).2.1 21 = 0 then (if (f_X7_sets m).1 = 0 then 0 else (if x = 5 then 1 else 0)) else 1)) 16 else (1, ob_i (f_X7_sets m).2 21 (if (f_X7_sets m).2.1 21 = 0 then (if (f_X7_sets m).1 = 0 then 0 else (if x = 5 then 1 else 0)) else 1))) := by
    intro g1 g2
    rw [g1, g2, if_pos rfl]
    show eq_ (f_X6_refuse c 16) (f_X7_noting (ob_i m 21 (if m.1 21 = 0 then (if (0 : Int32) = 0 then 0 else (if x = 5 then 1 else 0)) else 1)) 16)
    have : ob_i m 21 (if m.1 21 = 0 then (if (0 : Int32) = 0 then 0 else (if x = 5 then 1 else 0)) else 1) = m := by
      rcases lk_01 h with y | y
      · rw [if_pos y, if_pos rfl, ob_same y]
      · rw [if_neg (by rw [y]; decide), ob_same y]
    rw [this]
    exact T_ref h 16
  by_cases k : m.1 21 = 0
  · have iw : ∀ z : Int32, (f_X7_in (Int32.toInt64 (m.1 0 - m.1 11)) (Int32.toInt64 1) (Int32.toInt64 8) = 0) ↔ ¬ f_X6_isOutside (m.1 0 - m.1 11) 1 8 = 0 := fun _ => in_os (by rw [Int32.toInt_toInt64]) (by rw [Int32.toInt_toInt64])
    have el : f_X1_length 200 (c 2) - f_X1_length 8 (c 3) = m.1 0 - m.1 11 := by
      show (c 2).1 1 - (c 3).1 1 = _
      rw [t1, t2, t3, t4]
    by_cases o : f_X6_isOutside (m.1 0 - m.1 11) 1 8 = 0
    · have hin : ¬ f_X7_in (Int32.toInt64 (m.1 0 - m.1 11)) (Int32.toInt64 1) (Int32.toInt64 8) = 0 := fun z => (iw 0).mp z o
      have hr := os_t o
      rw [t2, t4, sub_nI (by omega) (by omega), o_t] at hr
      have e8 : (8 : Int32).toInt = 8 := by decide
      rw [e8] at hr
      have hpq : p ≤ q := by omega
      have sw := sw_iw tw hpq
      have ie := iw_eq m 1 8 hin
      by_cases z : f_X7_isWord m 1 8 = 0
      · exact no ((if_pos (q16.trans k)).trans ((if_pos (by rw [el]; exact o)).trans (if_pos (by rw [sw, ← ie]; exact z)))) ((if_pos k).trans (if_pos z))
      · have e1 : f_X6_setSecret c v = (1, cd_i (va_up c 3 (f_X1_becomeTail 8 200 (c 3) (c 2) (f_X1_length 8 (c 3)))) 16 v) := (if_pos (q16.trans k)).trans ((if_pos (by rw [el]; exact o)).trans (if_neg (by rw [sw, ← ie]; exact z)))
        have ed : m.1 0 - m.1 11 = nI (q - p) := by rw [t2, t4, pk_sub hpq]
        have e2 : f_X7_sets m = k_X7_sets_36 (nI p) 9 (nI 0) (ob_i m 11 (nI (q - p))) := (if_pos k).trans ((if_neg z).trans (by rw [ed, t4]; rfl))
        obtain ⟨s1, s2, s3, s4, s5⟩ := st_loop p t6 9 0 (q - p) (ob_i m 11 (nI (q - p))) (by omega) (by omega) (by omega) rfl
        obtain ⟨K, b0, u1, u2⟩ := bt_sec (s := c 3) t1 t5 hpq (by omega) t3
        have n10 : ¬ (1 : Int32) = 0 := by decide
        rw [e1, e2, b0, s1, if_neg n10, if_neg n10, e5]
        have m21 : (k_X7_sets_36 (nI p) 9 (nI 0) (ob_i m 11 (nI (q - p)))).2.1 21 = 0 := by rw [s2]; exact k
        rw [if_pos m21]
        generalize hk : k_X7_sets_36 (nI p) 9 (nI 0) (ob_i m 11 (nI (q - p))) = r at *
        obtain ⟨r1, rs, ra⟩ := r
        dsimp only at s1 s2 s3 s4 s5 m21 ⊢
        subst s2
        have a1 := s3 1 (by decide)
        have a9 := s3 9 (by decide)
        have a10 := s3 10 (by decide)
        have a14 := s3 14 (by decide)
        have a24 := s3 24 (by decide)
        have a25 := s3 25 (by decide)
        have a26 := s3 26 (by decide)
        obtain ⟨hM, hT, hW, hQ, hE, hS, hK, hO, hX⟩ := id h
        obtain ⟨o1, o2, o3, o4, o5, o6, o7, o8, o9, o10, o11⟩ := hO
        refine ⟨rfl, ?_, ?_, ⟨q - p, by omega, u1, rfl, ?_, fun _ => by omega⟩, ?_, hE, hS, hK, ⟨o1, o2, o3, o4, o5, o6, o7, o8, o9, Or.inr ⟨on1, q12, rfl⟩, ?_⟩, hX⟩
        · obtain ⟨m1, m2, m3, m4, m5, n, n1, n2, n3, n4, n5, n6⟩ := hM
          refine ⟨m1, m2, ?_, ?_, ?_, n, n1, n2, n3, ?_, ?_, ?_⟩
          · show (c 1).2 0 = ra 9
            rw [a9]; exact m3
          · show (c 1).2 1 = ra 10
            rw [a10]; exact m4
          · show ∀ i, ra 10 i = 0 ∨ ra 10 i = 1
            rw [a10]; exact m5
          · show pr_ ((c 1).2 2) n = pr_ (ra 14) n
            rw [a14]; exact n4
          · show (pr_ (ra 14) n).Nodup
            rw [a14]; exact n5
          · show ∀ y ∈ pr_ (ra 14) n, iB_ m y
            rw [a14]; exact n6
        · refine ⟨q, t5, t1, t2, ?_⟩
          show pr_ ((c 2).2 0) q = pr_ (ra 1) q
          rw [a1]; exact t7
        · show pr_ (K.2 0) (q - p) = pr_ (ra 12) (q - p)
          rw [u2]
          refine pr_congr (fun j hj => ?_)
          rw [s5 j (Nat.zero_le j) hj]
          exact pr_at t7 (by omega)
        · obtain ⟨qa, qb⟩ := hQ
          refine ⟨qa, ?_⟩
          show (m.1 23 = 0 ∧ _) ∨ (m.1 23 = 1 ∧ (c 4).1 3 = ra 26 0 ∧ (c 4).2 0 0 = ra 24 0 ∧ (c 4).2 1 0 = ra 25 0 ∧ iB_ m (ra 24 0)) ∨ (m.1 23 = 2 ∧ ((c 4).1 3 = ra 26 0 ∧ (c 4).2 0 0 = ra 24 0 ∧ (c 4).2 1 0 = ra 25 0 ∧ iB_ m (ra 24 0)) ∧ (ra 26 1 = 0 ∧ (c 4).2 0 1 = ra 24 1 ∧ (c 4).2 1 1 = ra 25 1 ∧ iB_ m (ra 24 1)))
          rw [a24, a25, a26]
          exact qb
        · rcases hx with y | y
          · exact Or.inl y.2
          · exact Or.inr y.2
    · exact no ((if_pos (q16.trans k)).trans (if_neg (by rw [el]; exact o))) ((if_pos k).trans (if_pos (iw_no m 1 8 ((iw 0).mpr o))))
  · exact no (if_neg (by rw [q16]; exact k)) (if_neg k)
theorem C_42 {c : cd_S} {m : ob_S} (h : rA_ c m) (on : ¬ m.1 15 = 0) (b0 : m.1 32 = 0) (a : Int32) : eq_ (f_X6_changeLock c a) (f_X7_erases m 42 a) := by
  have e2 : f_X7_erases m 42 a = f_X7_locks m a := (if_neg (by decide)).trans ((if_neg (by decide)).trans (if_neg (by decide)))
  rw [e2]
  by_cases x0 : a = 0
  · subst x0
    have e1 : f_X6_changeLock c 0 = f_X6_unlock c := if_pos rfl
    rw [e1]; exact L_0 h on
  by_cases x1 : a = 1
  · subst x1
    have e1 : f_X6_changeLock c 1 = f_X6_setSecret c 0 := (if_neg (by decide)).trans (if_pos rfl)
    rw [e1]; exact L_set h on 1 0 (Or.inl ⟨rfl, rfl⟩)
  by_cases x2 : a = 2
  · subst x2
    have e1 : f_X6_changeLock c 2 = f_X6_clearSecret c := (if_neg (by decide)).trans ((if_neg (by decide)).trans (if_pos rfl))
    rw [e1]; exact L_2 h on
  by_cases x4 : a = 4
  · subst x4
    have e1 : f_X6_changeLock c 4 = f_X6_lock c := (if_neg (by decide)).trans ((if_neg (by decide)).trans ((if_neg (by decide)).trans (if_pos rfl)))
    rw [e1]; exact L_4 h on
  by_cases x5 : a = 5
  · subst x5
    have e1 : f_X6_changeLock c 5 = f_X6_setSecret c 1 := (if_neg (by decide)).trans ((if_neg (by decide)).trans ((if_neg (by decide)).trans ((if_neg (by decide)).trans (if_pos rfl))))
    rw [e1]; exact L_set h on 5 1 (Or.inr ⟨rfl, rfl⟩)
  by_cases x8 : a = 8
  · subst x8
    have e1 : f_X6_changeLock c 8 = f_X6_force c := (if_neg (by decide)).trans ((if_neg (by decide)).trans ((if_neg (by decide)).trans ((if_neg (by decide)).trans ((if_neg (by decide)).trans (if_pos rfl)))))
    rw [e1]; exact L_8 h on b0
  · have e1 : f_X6_changeLock c a = f_X6_refuse c 16 := (if_neg x0).trans ((if_neg x1).trans ((if_neg x2).trans ((if_neg x4).trans ((if_neg x5).trans (if_neg x8)))))
    have e3 : f_X7_locks m a = f_X7_noting m 16 := (if_neg x0).trans ((if_neg x1).trans ((if_neg x2).trans ((if_neg x4).trans ((if_neg x5).trans (if_neg x8)))))
    rw [e1, e3]
    exact T_ref h 16
