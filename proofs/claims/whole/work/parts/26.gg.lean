/-- the stream goes on by one block -/
theorem rS_adv {c m : ob_S} (hS : rS_ c m) (hl : m.1 36 = -4 ∨ 1 ≤ (m.1 36).toInt) (y : Int32) : rS_ (f_X5_advance c) (ob_i (ob_i (ob_i m 35 (m.1 35 + 1)) 36 (if m.1 36 = -4 then -4 else m.1 36 - 1)) 16 y) := by
  obtain ⟨s1, s2, s3, s4, s5⟩ := hS
  refine ⟨?_, s2, s3, ?_, s5⟩
  · show c.1 1 + 1 = m.1 35 + 1
    rw [s1]
  · show (c.1 3 = 0 ∧ (if m.1 36 = -4 then -4 else m.1 36 - 1) = -4) ∨ (c.1 3 = 1 ∧ c.1 2 - 1 = (if m.1 36 = -4 then -4 else m.1 36 - 1) ∧ 0 ≤ (if m.1 36 = -4 then -4 else m.1 36 - 1).toInt)
    rcases s4 with q | q
    · exact Or.inl ⟨q.1, if_pos q.2⟩
    · have e4 : (-4 : Int32).toInt = -4 := by decide
      have n4 : ¬ m.1 36 = -4 := fun z => by have := q.2.2; rw [z, e4] at this; omega
      rw [if_neg n4]
      have l : 1 ≤ (m.1 36).toInt := hl.resolve_left n4
      exact Or.inr ⟨q.1, by rw [q.2.1], by rw [sub1_t q.2.2]; omega⟩
theorem cm_adv {c m : ob_S} (hS : rS_ c m) (hl : m.1 36 = -4 ∨ 1 ≤ (m.1 36).toInt) : f_X5_isComplete (f_X5_advance c) = 0 ↔ ¬ (if m.1 36 = -4 then -4 else m.1 36 - 1) = 0 := by
  obtain ⟨s1, s2, s3, s4, s5⟩ := hS
  have e4 : (-4 : Int32).toInt = -4 := by decide
  rcases s4 with q | q
  · have e : f_X5_isComplete (f_X5_advance c) = 0 := if_pos q.1
    rw [e, if_pos q.2]
    decide
  · have n4 : ¬ m.1 36 = -4 := fun z => by have := q.2.2; rw [z, e4] at this; omega
    have l : 1 ≤ (m.1 36).toInt := hl.resolve_left n4
    have e1 : (m.1 36 - 1).toInt = (m.1 36).toInt - 1 := sub1_t q.2.2
    rw [if_neg n4]
    have q1 : ¬ (f_X5_advance c).1 3 = 0 := by show ¬ c.1 3 = 0; rw [q.1]; decide
    by_cases d : m.1 36 - 1 = 0
    · have e : f_X5_isComplete (f_X5_advance c) = 1 := (if_neg q1).trans (if_neg (by show ¬ 0 < c.1 2 - 1; rw [q.2.1, d]; decide))
      rw [e]
      exact ⟨fun z => absurd z (by decide), fun z => absurd d z⟩
    · have l2 := ne_t d z_t
      have e : f_X5_isComplete (f_X5_advance c) = 0 := (if_neg q1).trans (if_pos (by show 0 < c.1 2 - 1; rw [q.2.1, Int32.lt_iff_toInt_lt, z_t]; omega))
      rw [e]
      exact ⟨fun _ => d, fun _ => rfl⟩
theorem T_get {c : cd_S} {m : ob_S} (h : rA_ c m) : eq_ (f_X6_get c) (f_X7_get m) := by
  obtain ⟨hM, hT, hW, hQ, hE, hS, hK, hO, hX⟩ := id h
  by_cases on : m.1 15 = 0
  · have q : (c 0).1 12 = -1 := by
      rcases hO.2.2.2.2.2.2.2.2.2.1 with q | q
      · exact q.2.1
      · rw [on] at q; exact absurd q.1 (by decide)
    have e1 : f_X6_get c = (-2, c) := if_neg (by rw [q]; decide)
    have e2 : f_X7_get m = (-2, m) := if_pos on
    rw [e1, e2]
    exact ⟨rfl, h⟩
  obtain ⟨on1, q12, q16⟩ := on_of h on
  by_cases s5 : m.1 16 = 5
  · have s5' : (c 0).1 12 = 5 := q12.trans s5
    have w := win_of h
    by_cases w0 : f_X7_isInWindow m = 0
    · have e1 : f_X6_get c = (-4, c) := (if_pos s5').trans (if_pos (w.trans w0))
      have e2 : f_X7_get m = (-4, m) := (if_neg on).trans ((if_pos s5).trans (if_pos w0))
      rw [e1, e2]
      exact ⟨rfl, h⟩
    have w1 : ¬ f_X2_isInWindow (c 7) ((c 0).1 11) = 0 := by rw [w]; exact w0
    have lx := hX.2.2.2.1 (Or.inl s5)
    have nB : iB_ m (m.1 35) := ⟨lx.1, hX.2.2.2.2.1 s5⟩
    have nx : f_X5_next (c 6) = m.1 35 := hS.1
    have tr := torn_of h nB
    have zz := hM.2.2.2.2.1 (Int32.toNatClampNeg (m.1 35))
    by_cases t1 : m.2 10 (Int32.toNatClampNeg (m.1 35)) = 1
    · have e1 : f_X6_get c = (-4, c) := (if_pos s5').trans ((if_neg w1).trans (if_neg (by rw [nx, tr, t1]; decide)))
      have e2 : f_X7_get m = (-4, m) := (if_neg on).trans ((if_pos s5).trans ((if_neg w0).trans (if_pos t1)))
      rw [e1, e2]
      exact ⟨rfl, h⟩
    have t0 : m.2 10 (Int32.toNatClampNeg (m.1 35)) = 0 := zz.resolve_right t1
    have hl := hX.2.2.2.2.2 (Or.inl s5)
    have cmp := cm_adv hS hl
    obtain ⟨B, b1, b2, b3, b4⟩ := hM.1
    have q23 : m.1 23 = 0 := by
      rcases hX.2.2.1 with z | z | z
      · exact z
      · rw [s5] at z; exact absurd z (by decide)
      · rw [s5] at z; exact absurd z (by decide)
    have inc : (m.1 35 + 1).toInt = (m.1 35).toInt + 1 := inc_b (n := 64) (by have := nB.2; rw [b4, nI_toInt (by omega)] at this; omega) (by decide)
    have hb2 : f_X3_has (c 1) (f_X5_next (f_X5_advance (c 6))) = 0 ↔ m.1 35 + 1 = m.1 3 := by
      have e : f_X5_next (f_X5_advance (c 6)) = m.1 35 + 1 := by show (c 6).1 1 + 1 = _; rw [hS.1]
      rw [e, has_of h]
      constructor
      · intro z
        apply Int32.toInt_inj.mp
        rw [inc]
        by_cases g : (m.1 35).toInt + 1 < (m.1 3).toInt
        · exact absurd ⟨by rw [inc]; omega, by rw [inc]; exact g⟩ z
        · have := nB.2; omega
      · intro z y
        have := y.2
        rw [z] at this
        omega
    have ct : f_X3_contentOf (c 1) (f_X5_next (c 6)) = m.2 9 (Int32.toNatClampNeg (m.1 35)) := by rw [nx]; exact con_of h nB
    have e1 : f_X6_get c = (if f_X5_isComplete (f_X5_advance (c 6)) = 0 then (if f_X3_has (c 1) (f_X5_next (f_X5_advance (c 6))) = 0 then (f_X3_contentOf (c 1) (f_X5_next (c 6)), cd_i (va_up c 6 (f_X5_advance (c 6))) 12 4) else (f_X3_contentOf (c 1) (f_X5_next (c 6)), va_up c 6 (f_X5_advance (c 6)))) else (f_X3_contentOf (c 1) (f_X5_next (c 6)), cd_i (va_up c 6 (f_X5_advance (c 6))) 12 4)) := (if_pos s5').trans ((if_neg w1).trans (if_pos (by rw [nx, tr, t0])))
    have e2 : f_X7_get m = (m.2 9 (Int32.toNatClampNeg (m.1 35)), ob_i (ob_i (ob_i m 35 (m.1 35 + 1)) 36 (if m.1 36 = -4 then -4 else m.1 36 - 1)) 16 (if (if m.1 36 = -4 then -4 else m.1 36 - 1) = 0 then 4 else (if m.1 35 + 1 = m.1 3 then 4 else 5))) := (if_neg on).trans ((if_pos s5).trans ((if_neg w0).trans (if_neg t1)))
    rw [e1, e2, ct]
    obtain ⟨o1, o2, o3, o4, o5, o6, o7, o8, o9, o10, o11⟩ := hO
    have fin4 : ∀ y : Int32, y = 4 → eq_ (m.2 9 (Int32.toNatClampNeg (m.1 35)), cd_i (va_up c 6 (f_X5_advance (c 6))) 12 4) (m.2 9 (Int32.toNatClampNeg (m.1 35)), ob_i (ob_i (ob_i m 35 (m.1 35 + 1)) 36 (if m.1 36 = -4 then -4 else m.1 36 - 1)) 16 y) := by
      intro y hy
      subst hy
      refine ⟨rfl, hM, hT, hW, hQ, hE, rS_adv hS hl 4, hK, ⟨o1, o2, o3, o4, o5, o6, o7, o8, o9, Or.inr ⟨on1, rfl, q16⟩, o11⟩, ?_⟩
      exact rX_of (s := 4) rfl (by decide) (by decide) (by decide) (fun z => absurd z on) (Or.inl q23)
    by_cases k : (if m.1 36 = -4 then -4 else m.1 36 - 1) = 0
    · rw [if_neg (fun z => (cmp.mp z) k)]
      exact fin4 _ (if_pos k)
    · rw [if_pos (cmp.mpr k)]
      by_cases g : m.1 35 + 1 = m.1 3
      · rw [if_pos (hb2.mpr g)]
        exact fin4 _ ((if_neg k).trans (if_pos g))
      · rw [if_neg (fun z => g (hb2.mp z))]
        have ey : (if (if m.1 36 = -4 then -4 else m.1 36 - 1) = 0 then (4 : Int32) else (if m.1 35 + 1 = m.1 3 then 4 else 5)) = 5 := (if_neg k).trans (if_neg g)
        rw [ey]
        have l35 : (m.1 35).toInt + 1 < (m.1 3).toInt := by
          have z := ne_t (n := (m.1 3).toInt) g rfl
          rw [inc] at z
          have := nB.2
          omega
        refine ⟨rfl, hM, hT, hW, hQ, hE, rS_adv hS hl 5, hK, ⟨o1, o2, o3, o4, o5, o6, o7, o8, o9, Or.inr ⟨on1, q12.trans s5, q16⟩, o11⟩, ⟨5, by decide, rfl⟩, fun z => absurd z on, Or.inl q23, fun _ => ?_, fun _ => ?_, fun _ => ?_⟩
        · show 0 ≤ (m.1 35 + 1).toInt ∧ (m.1 35 + 1).toInt ≤ 64
          rw [inc]
          rw [b4, nI_toInt (by omega)] at l35
          omega
        · show (m.1 35 + 1).toInt < (m.1 3).toInt
          rw [inc]; exact l35
        · show (if m.1 36 = -4 then -4 else m.1 36 - 1) = -4 ∨ 1 ≤ (if m.1 36 = -4 then -4 else m.1 36 - 1).toInt
          by_cases n4 : m.1 36 = -4
          · exact Or.inl (if_pos n4)
          · right
            rw [if_neg n4] at k ⊢
            have l := hl.resolve_left n4
            have z := ne_t k z_t
            have e := sub1_t (x := m.1 36) (by omega)
            rw [e] at z ⊢
            omega
  · have e1 : f_X6_get c = (-2, c) := if_neg (by rw [q12]; exact s5)
    have e2 : f_X7_get m = (-2, m) := (if_neg on).trans (if_neg s5)
    rw [e1, e2]
    exact ⟨rfl, h⟩
/-- a note -/
theorem rA_note {c : cd_S} {m : ob_S} (h : rA_ c m) (b : Int32) : rA_ (f_X6_note c b) (ob_i m 22 (m.1 22 ||| b)) := by
  obtain ⟨hM, hT, hW, hQ, hE, hS, hK, hO, hX⟩ := h
  obtain ⟨o1, o2, o3, o4, o5, o6, o7, o8, o9, o10, o11⟩ := hO
  refine ⟨hM, hT, hW, hQ, hE, hS, hK, ⟨o1, o2, o3, o4, o5, o6, o7, ?_, o9, o10, o11⟩, hX⟩
  show (c 0).1 14 ||| b = m.1 22 ||| b
  rw [o8]
theorem T_ref {c : cd_S} {m : ob_S} (h : rA_ c m) (b : Int32) : eq_ (f_X6_refuse c b) (f_X7_noting m b) := ⟨rfl, rA_note h b⟩
theorem T_give {c : cd_S} {m : ob_S} (h : rA_ c m) (x y : Int32) : eq_ (f_X6_give c x y) (f_X7_give m x y) := by
  obtain ⟨hM, hT, hW, hQ, hE, hS, hK, hO, hX⟩ := id h
  by_cases a : f_X6_isOutside x 0 65535 = 0
  rotate_left
  · have e1 : f_X6_give c x y = (-1, c) := if_neg a
    have e2 : f_X7_give m x y = (-1, m) := if_pos (in_no (by decide) (by decide) a)
    rw [e1, e2]; exact ⟨rfl, h⟩
  have a2 := in_yes (A := 0) (B := 65535) (by decide) (by decide) a
  by_cases b : f_X6_isOutside y 0 127 = 0
  rotate_left
  · have e1 : f_X6_give c x y = (-1, c) := (if_pos a).trans (if_neg b)
    have e2 : f_X7_give m x y = (-1, m) := (if_neg a2).trans (if_pos (in_no (by decide) (by decide) b))
    rw [e1, e2]; exact ⟨rfl, h⟩
  have b2 := in_yes (A := 0) (B := 127) (by decide) (by decide) b
  by_cases on : m.1 15 = 0
  · have q : (c 0).1 12 = -1 := by
      rcases hO.2.2.2.2.2.2.2.2.2.1 with q | q
      · exact q.2.1
      · rw [on] at q; exact absurd q.1 (by decide)
    have e1 : f_X6_give c x y = (-2, c) := (if_pos a).trans ((if_pos b).trans (if_neg (by rw [q]; decide)))
    have e2 : f_X7_give m x y = (-2, m) := (if_neg a2).trans ((if_neg b2).trans (if_pos on))
    rw [e1, e2]; exact ⟨rfl, h⟩
  obtain ⟨on1, q12, q16⟩ := on_of h on
  by_cases s6 : m.1 16 = 6
  rotate_left
  · have e1 : f_X6_give c x y = (-2, c) := (if_pos a).trans ((if_pos b).trans (if_neg (by rw [q12]; exact s6)))
    have e2 : f_X7_give m x y = (-2, m) := (if_neg a2).trans ((if_neg b2).trans ((if_neg on).trans (if_neg s6)))
    rw [e1, e2]; exact ⟨rfl, h⟩
  have s6' : (c 0).1 12 = 6 := q12.trans s6
  by_cases wr : m.1 37 = 0
  rotate_left
  · have e1 : f_X6_give c x y = (-2, c) := (if_pos a).trans ((if_pos b).trans ((if_pos s6').trans (if_neg (by show ¬ (c 6).1 4 = 0; rw [hS.2.1]; exact wr))))
    have e2 : f_X7_give m x y = (-2, m) := (if_neg a2).trans ((if_neg b2).trans ((if_neg on).trans ((if_pos s6).trans (if_neg wr))))
    rw [e1, e2]; exact ⟨rfl, h⟩
  have wr' : f_X5_isWrong (c 6) = 0 := by show (c 6).1 4 = 0; rw [hS.2.1]; exact wr
  by_cases l0 : m.1 36 = 0
  · have e1 : f_X6_give c x y = (-2, c) := (if_pos a).trans ((if_pos b).trans ((if_pos s6').trans ((if_pos wr').trans (if_neg (fun z => (cm_of h).mp z l0)))))
    have e2 : f_X7_give m x y = (-2, m) := (if_neg a2).trans ((if_neg b2).trans ((if_neg on).trans ((if_pos s6).trans ((if_pos wr).trans (if_pos l0)))))
    rw [e1, e2]; exact ⟨rfl, h⟩
  have cm0 := (cm_of h).mpr l0
  have nx : f_X5_next (c 6) = m.1 35 := hS.1
  have lx := hX.2.2.2.1 (Or.inr s6)
  by_cases nb : m.1 35 < m.1 3
  rotate_left
  · have hb : f_X3_has (c 1) (f_X5_next (c 6)) = 0 := by rw [nx, has_of h]; intro z; have := z.2; have := nlt_t nb; omega
    have e1 : f_X6_give c x y = f_X6_refuse c 4 := (if_pos a).trans ((if_pos b).trans ((if_pos s6').trans ((if_pos wr').trans ((if_pos cm0).trans (if_pos hb)))))
    have e2 : f_X7_give m x y = f_X7_noting m 4 := (if_neg a2).trans ((if_neg b2).trans ((if_neg on).trans ((if_pos s6).trans ((if_pos wr).trans ((if_neg l0).trans (if_neg nb))))))
    rw [e1, e2]; exact T_ref h 4
  have nB : iB_ m (m.1 35) := ⟨lx.1, lt_t nb⟩
  have hb : ¬ f_X3_has (c 1) (f_X5_next (c 6)) = 0 := by rw [nx]; exact fun z => (has_of h _).mp z nB
  by_cases fu : m.1 23 = 2
  · have hf : ¬ f_X4_isFull (c 4) = 0 := by
      have e : f_X4_isFull (c 4) = 1 := if_neg (by rw [hQ.1, fu]; decide)
      rw [e]; decide
    have e1 : f_X6_give c x y = (-3, c) := (if_pos a).trans ((if_pos b).trans ((if_pos s6').trans ((if_pos wr').trans ((if_pos cm0).trans ((if_neg hb).trans (if_neg hf))))))
    have e2 : f_X7_give m x y = (-3, m) := (if_neg a2).trans ((if_neg b2).trans ((if_neg on).trans ((if_pos s6).trans ((if_pos wr).trans ((if_neg l0).trans ((if_pos nb).trans (if_pos fu)))))))
    rw [e1, e2]; exact ⟨rfl, h⟩
  have m01 : m.1 23 = 0 ∨ m.1 23 = 1 := by
    rcases hQ.2 with q | q | q
    · exact Or.inl q.1
    · exact Or.inr q.1
    · exact absurd q.1 fu
  have hf : f_X4_isFull (c 4) = 0 := if_pos (by rw [hQ.1]; rcases m01 with q | q <;> rw [q] <;> decide)
  have w := win_of h
  have spoil : eq_ (0, va_up (f_X6_note c 64) 6 (f_X5_spoil ((f_X6_note c 64) 6))) (0, ob_i (ob_i m 22 (m.1 22 ||| 64)) 37 1) := by
    obtain ⟨gM, gT, gW, gQ, gE, gS, gK, gO, gX⟩ := rA_note h 64
    exact ⟨rfl, gM, gT, gW, gQ, gE, ⟨gS.1, rfl, Or.inr rfl, gS.2.2.2⟩, gK, gO, gX⟩
  by_cases w0 : f_X7_isInWindow m = 0
  · have e1 : f_X6_give c x y = (0, va_up (f_X6_note c 64) 6 (f_X5_spoil ((f_X6_note c 64) 6))) := (if_pos a).trans ((if_pos b).trans ((if_pos s6').trans ((if_pos wr').trans ((if_pos cm0).trans ((if_neg hb).trans ((if_pos hf).trans (if_pos (w.trans w0))))))))
    have e2 : f_X7_give m x y = (0, ob_i (ob_i m 22 (m.1 22 ||| 64)) 37 1) := (if_neg a2).trans ((if_neg b2).trans ((if_neg on).trans ((if_pos s6).trans ((if_pos wr).trans ((if_neg l0).trans ((if_pos nb).trans ((if_neg fu).trans (if_pos w0))))))))
    rw [e1, e2]; exact spoil
  have w1 : ¬ f_X2_isInWindow (c 7) ((c 0).1 11) = 0 := by rw [w]; exact w0
  have ck : f_X6_contentCheck x = f_X7_checkOf m x := by
    have e : f_X7_checkOf m x = f_X7_checked x 16 := if_neg a2
    rw [e]; exact ck_eq x 16
  by_cases k : y = f_X7_checkOf m x
  rotate_left
  · have e1 : f_X6_give c x y = (0, va_up (f_X6_note c 64) 6 (f_X5_spoil ((f_X6_note c 64) 6))) := (if_pos a).trans ((if_pos b).trans ((if_pos s6').trans ((if_pos wr').trans ((if_pos cm0).trans ((if_neg hb).trans ((if_pos hf).trans ((if_neg w1).trans (if_neg (by rw [ck]; exact k)))))))))
    have e2 : f_X7_give m x y = (0, ob_i (ob_i m 22 (m.1 22 ||| 64)) 37 1) := (if_neg a2).trans ((if_neg b2).trans ((if_neg on).trans ((if_pos s6).trans ((if_pos wr).trans ((if_neg l0).trans ((if_pos nb).trans ((if_neg fu).trans ((if_neg w0).trans (if_neg k)))))))))
    rw [e1, e2]; exact spoil
  have hl := hX.2.2.2.2.2 (Or.inr s6)
  have cmp := cm_adv hS hl
  have e1 : f_X6_give c x y = (if f_X5_isComplete (f_X5_advance (c 6)) = 0 then (1, va_up (va_up c 4 (f_X4_append (c 4) (f_X5_next (c 6)) x)) 6 (f_X5_advance (c 6))) else (1, cd_i (va_up (va_up c 4 (f_X4_append (c 4) (f_X5_next (c 6)) x)) 6 (f_X5_advance (c 6))) 12 7)) := (if_pos a).trans ((if_pos b).trans ((if_pos s6').trans ((if_pos wr').trans ((if_pos cm0).trans ((if_neg hb).trans ((if_pos hf).trans ((if_neg w1).trans (if_pos (by rw [ck]; exact k)))))))))
  have e2 : f_X7_give m x y = (1, ob_i (ob_i (ob_i (ob_i (ob_a (ob_a (ob_a m 24 (Int32.toNatClampNeg (m.1 23)) (m.1 35)) 25 (Int32.toNatClampNeg (m.1 23)) x) 26 (Int32.toNatClampNeg (m.1 23)) 0) 23 (m.1 23 + 1)) 35 (m.1 35 + 1)) 36 (if m.1 36 = -4 then -4 else m.1 36 - 1)) 16 (if (if m.1 36 = -4 then -4 else m.1 36 - 1) = 0 then 7 else 6)) := (if_neg a2).trans ((if_neg b2).trans ((if_neg on).trans ((if_pos s6).trans ((if_pos wr).trans ((if_neg l0).trans ((if_pos nb).trans ((if_neg fu).trans ((if_neg w0).trans (if_pos k)))))))))
  rw [e1, e2, nx]
  obtain ⟨B, b1, b2', b3, b4⟩ := hM.1
  have inc : (m.1 35 + 1).toInt = (m.1 35).toInt + 1 := inc_b (n := 64) (by have := nB.2; rw [b4, nI_toInt (by omega)] at this; omega) (by decide)
  -- the queue behind it
  have hQ' : ∀ z1 z2 z3 : Int32, rQ_ (f_X4_append (c 4) (m.1 35) x) (ob_i (ob_i (ob_i (ob_i (ob_a (ob_a (ob_a m 24 (Int32.toNatClampNeg (m.1 23)) (m.1 35)) 25 (Int32.toNatClampNeg (m.1 23)) x) 26 (Int32.toNatClampNeg (m.1 23)) 0) 23 (m.1 23 + 1)) 35 z1) 36 z2) 16 z3) := by
    intro z1 z2 z3
    rcases hQ.2 with q | q | q
    · have q2 : (c 4).1 2 = 0 := hQ.1.trans q.1
      have ea : f_X4_append (c 4) (m.1 35) x = ob_i (ob_a (ob_a (c 4) 0 0 (m.1 35)) 1 0 x) 2 1 := (if_neg (by rw [q2]; decide)).trans ((if_pos (by rw [q2]; decide)).trans (by rw [q2]; rfl))
      rw [ea, q.1]
      exact ⟨rfl, Or.inr (Or.inl ⟨rfl, q.2, rfl, rfl, nB⟩)⟩
    · have q2 : (c 4).1 2 = 1 := hQ.1.trans q.1
      have ea : f_X4_append (c 4) (m.1 35) x = ob_i (ob_a (ob_a (c 4) 0 1 (m.1 35)) 1 1 x) 2 2 := (if_neg (by rw [q2]; decide)).trans ((if_pos (by rw [q2]; decide)).trans (by rw [q2]; rfl))
      rw [ea, q.1]
      obtain ⟨_, p1, p2, p3, p4⟩ := q
      exact ⟨rfl, Or.inr (Or.inr ⟨rfl, ⟨p1, p2, p3, p4⟩, rfl, rfl, rfl, nB⟩)⟩
    · exact absurd q.1 fu
  have hS' := fun z => rS_adv hS hl z
  obtain ⟨o1, o2, o3, o4, o5, o6, o7, o8, o9, o10, o11⟩ := hO
  by_cases d : (if m.1 36 = -4 then -4 else m.1 36 - 1) = 0
  · rw [if_neg (fun z => cmp.mp z d), if_pos d]
    refine ⟨rfl, hM, hT, hW, hQ' _ _ _, hE, hS' 7, hK, ⟨o1, o2, o3, o4, o5, o6, o7, o8, o9, Or.inr ⟨on1, rfl, q16⟩, o11⟩, ?_⟩
    exact rX_of (s := 7) rfl (by decide) (by decide) (by decide) (fun z => absurd z on) (Or.inr rfl)
  · rw [if_pos (cmp.mpr d), if_neg d]
    refine ⟨rfl, hM, hT, hW, hQ' _ _ _, hE, hS' 6, hK, ⟨o1, o2, o3, o4, o5, o6, o7, o8, o9, Or.inr ⟨on1, s6', q16⟩, o11⟩, ⟨6, by decide, rfl⟩, fun z => absurd z on, Or.inr (Or.inl rfl), fun _ => ?_, fun z => absurd z (by show ¬ (6 : Int32) = 5; decide), fun _ => ?_⟩
    · show 0 ≤ (m.1 35 + 1).toInt ∧ (m.1 35 + 1).toInt ≤ 64
      rw [inc]
      have := nB.2
      rw [b4, nI_toInt (by omega)] at this
      have := nB.1
      omega
    · show (if m.1 36 = -4 then -4 else m.1 36 - 1) = -4 ∨ 1 ≤ (if m.1 36 = -4 then -4 else m.1 36 - 1).toInt
      by_cases n4 : m.1 36 = -4
      · exact Or.inl (if_pos n4)
      · right
        rw [if_neg n4] at d ⊢
        have l := hl.resolve_left n4
        have z := ne_t d z_t
        have e := sub1_t (x := m.1 36) (by omega)
        rw [e] at z ⊢
        omega
