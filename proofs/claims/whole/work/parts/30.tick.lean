/-! One tick -/
def ct_ (r : cd_S) : cd_S := if (r 0).1 12 = 7 then (if (r 4).1 2 = 0 then (if (r 5).1 4 = 0 then cd_i r 12 4 else r) else r) else r
def mt_ (r : ob_S) : ob_S := ob_i r 16 (if r.1 16 = 7 then (if r.1 23 = 0 then (if r.1 28 = 0 then 4 else r.1 16) else r.1 16) else r.1 16)
def me_ (v : ob_S) : ob_S := ob_i (ob_i (ob_i (f_X7_groupEmpties (ob_i v 29 (v.1 29 + 1)) (v.1 27) 0) 27 ((f_X7_groupEmpties (ob_i v 29 (v.1 29 + 1)) (v.1 27) 0).1 27 + 1)) 28 ((f_X7_groupEmpties (ob_i v 29 (v.1 29 + 1)) (v.1 27) 0).1 28 - 1)) 29 0
theorem wk_1 {u : cd_S} (h : (u 0).1 12 = 6 ∨ (u 0).1 12 = 7) : f_X6_work u = (if (u 4).1 2 ≤ 0 then (if (u 5).1 4 ≤ 0 then ct_ u else ct_ (f_X6_eraseFurther u)) else ct_ (f_X6_writeFurther u)) := by
  rcases h with h | h
  · exact if_pos h
  · exact (if_neg (by rw [h]; decide)).trans (if_pos h)
theorem wk_0 {u : cd_S} (h6 : ¬ (u 0).1 12 = 6) (h7 : ¬ (u 0).1 12 = 7) : f_X6_work u = u := (if_neg h6).trans (if_neg h7)
theorem ot_1 {m : ob_S} (on : ¬ m.1 15 = 0) (h : m.1 16 = 6 ∨ m.1 16 = 7) : f_X7_oneTick m = (if m.1 23 ≤ 0 then (if m.1 28 ≤ 0 then mt_ (ob_i m 7 (m.1 7 + 1)) else (if m.1 29 + 1 = 2 then mt_ (me_ (ob_i m 7 (m.1 7 + 1))) else mt_ (ob_i (ob_i m 7 (m.1 7 + 1)) 29 (m.1 29 + 1)))) else mt_ (f_X7_writes (ob_i m 7 (m.1 7 + 1)))) := by
  rcases h with h | h
  · exact (if_neg on).trans (if_pos h)
  · exact (if_neg on).trans ((if_neg (by rw [h]; decide)).trans (if_pos h))
theorem ot_0 {m : ob_S} (h : m.1 15 = 0 ∨ ¬ m.1 16 = 6 ∧ ¬ m.1 16 = 7) : f_X7_oneTick m = ob_i m 7 (m.1 7 + 1) := by
  by_cases on : m.1 15 = 0
  · exact if_pos on
  · rcases h with h | h
    · exact absurd h on
    · exact (if_neg on).trans ((if_neg h.1).trans (if_neg h.2))
theorem rA_tk {c : cd_S} {m : ob_S} (h : rA_ c m) : rA_ (cd_i c 10 ((c 0).1 10 + 1)) (ob_i m 7 (m.1 7 + 1)) := by
  obtain ⟨hM, hT, hW, hQ, hE, hS, hK, hO, hX⟩ := h
  obtain ⟨o1, o2, o3, o4, o5, o6, o7, o8, o9, o10, o11⟩ := hO
  exact ⟨hM, hT, hW, hQ, hE, hS, hK, ⟨o1, o2, o3, by show (c 0).1 10 + 1 = m.1 7 + 1; rw [o4], o5, o6, o7, o8, o9, o10, o11⟩, hX⟩
/-- the last step of a tick -/
theorem T_fin {c : cd_S} {m : ob_S} (h : rA_ c m) (on : ¬ m.1 15 = 0) : rA_ (ct_ c) (mt_ m) := by
  obtain ⟨on1, q12, q16⟩ := on_of h on
  have e1 : (c 4).1 2 = m.1 23 := h.2.2.2.1.1
  have e2 : (c 5).1 4 = m.1 28 := h.2.2.2.2.1.2.2.1
  unfold ct_ mt_
  rw [q12, e1, e2]
  by_cases a : m.1 16 = 7
  · rw [if_pos a, if_pos a]
    by_cases b : m.1 23 = 0
    · rw [if_pos b, if_pos b]
      by_cases d : m.1 28 = 0
      · rw [if_pos d, if_pos d]
        exact rA_st h on (s := 4) (by decide) (by decide) (by decide) (Or.inl b)
      · rw [if_neg d, if_neg d, ob_same rfl]; exact h
    · rw [if_neg b, if_neg b, ob_same rfl]; exact h
  · rw [if_neg a, if_neg a, ob_same rfl]; exact h
/-- the ticks that a block takes -/
theorem tb_eq {c m : ob_S} (h : c.1 0 = m.1 18) (r : 0 ≤ (m.1 18).toInt ∧ (m.1 18).toInt < 3) : f_X2_ticksOfBlock c = (if m.1 18 = 0 then 4 else (if m.1 18 = 1 then 2 else 1)) := by
  show 4 >>> (c.1 0 &&& 31) = _
  rw [h]
  obtain ⟨k, k1, k2, k3⟩ := of_rng (n := 2) r.1 (by omega)
  rw [k2]
  rcases (show k = 0 ∨ k = 1 ∨ k = 2 by omega) with z | z | z <;> subst z <;> decide
/-- a block is put, side by side -/
theorem M_put {k m : ob_S} (h : rM_ k m) {i : Nat} (hi : iB_ m (nI i)) (hi64 : i < 64) (y t : Int32) :
    ∃ a : Nat, a ≤ 63 ∧ (f_X7_forgets (ob_a m 26 0 t) (nI i)).1 13 = nI a ∧ (∀ j, j ≠ 13 → (f_X7_forgets (ob_a m 26 0 t) (nI i)).1 j = m.1 j) ∧ (∀ j, j ≠ 14 → (f_X7_forgets (ob_a m 26 0 t) (nI i)).2 j = (ob_a m 26 0 t).2 j) ∧
    ∀ m' : ob_S, m'.1 3 = m.1 3 → m'.1 4 = m.1 4 → m'.2 9 = upd (m.2 9) i y → m'.2 10 = upd (m.2 10) i 0 → m'.1 13 = nI (a + 1) → m'.2 14 = upd (s1_ ((f_X7_forgets (ob_a m 26 0 t) (nI i)).2 14) a) 0 (nI i) → rM_ (f_X3_put k (nI i) y) m' := by
  obtain ⟨⟨B, b1, b2, b3, b4⟩, ⟨G, g1, g2, g3, g4⟩, c9, c10, zz, n, n1, n2, n3, n4, n5, n6⟩ := h
  obtain ⟨a, p1, p2, p3, p4, p5⟩ := fo_spec (ob_a m 26 0 t) (nI i) n1 n3
  have p3' : pr_ ((f_X7_forgets (ob_a m 26 0 t) (nI i)).2 14) a = (pr_ (m.2 14) n).filter (fun x => decide (x ≠ nI i)) := p3
  have nd : (pr_ ((f_X7_forgets (ob_a m 26 0 t) (nI i)).2 14) a).Nodup := by
    rw [p3']; exact List.Nodup.sublist List.filter_sublist n5
  have mb : ∀ x ∈ pr_ ((f_X7_forgets (ob_a m 26 0 t) (nI i)).2 14) a, iB_ m x := by
    intro x hx
    rw [p3'] at hx
    exact n6 x (List.mem_filter.mp hx).1
  have mb2 : ∀ x, iB_ m x → 0 ≤ x.toInt ∧ x.toInt < (B : Int) := by
    intro x hx
    obtain ⟨x1, x2⟩ := hx
    rw [b4, nI_toInt (by omega)] at x2
    exact ⟨x1, x2⟩
  have nm : nI i ∉ pr_ ((f_X7_forgets (ob_a m 26 0 t) (nI i)).2 14) a := by
    intro hx
    rw [p3'] at hx
    have := (List.mem_filter.mp hx).2
    simp at this
  have a63 : a + 1 ≤ B := nd_lt nd (fun x hx => mb2 x (mb x hx)) (mb2 _ hi) nm
  refine ⟨a, by omega, p1, p5, p4, ?_⟩
  intro m' e3 e4 e9 e10 e13 e14
  have hh : ¬ f_X3_has k (nI i) = 0 := by
    have e : f_X3_has k (nI i) = 1 := by
      have := mb2 _ hi
      rw [nI_toInt (by omega)] at this
      rw [has_nI b2 b3 (by omega), if_pos (by omega)]
    rw [e]; decide
  obtain ⟨i', r1, r2, r3, r4, r5⟩ := dr_spec (ob_a (ob_a k 0 i y) 1 i (vp_nar .boolean 0)) (nI i) (nI (i + 1)) n1 n2
  have r3' : pr_ ((f_X3_dropWritten (ob_a (ob_a k 0 i y) 1 i (vp_nar .boolean 0)) (nI i) (nI (i + 1))).2 2) i' = (pr_ (m.2 14) n).filter (fun x => decide (x ≠ nI i)) := by
    rw [q_one i (by omega), ← n4]; exact r3
  have ei : i' = a := by
    have z1 := congrArg List.length r3'
    have z2 := congrArg List.length p3'
    rw [pr_len] at z1 z2
    omega
  subst ei
  generalize hr : f_X3_dropWritten (ob_a (ob_a k 0 i y) 1 i (vp_nar .boolean 0)) (nI i) (nI (i + 1)) = r at *
  have e0 : f_X3_put k (nI i) y = ob_i (r.1, va_up r.2 2 (upd (s1_ (r.2 2) i') 0 (nI i))) 3 (nI (i' + 1)) := by
    refine (if_neg hh).trans ?_
    show f_X3_addWrittenFirst (f_X3_dropWritten (ob_a (ob_a k 0 (Int32.toNatClampNeg (nI i)) y) 1 (Int32.toNatClampNeg (nI i)) (vp_nar .boolean 0)) (nI i) (nI i + 1)) (nI i) = _
    rw [tn_nI (by omega), nI_s, hr]
    have lt : r.1 3 < 64 := by rw [r1]; exact (nI_ltI (b := 64) (by omega) (by decide)).mpr (by omega)
    refine (if_pos lt).trans ?_
    rw [r1, aw_loop (nI i) 64 i' r (by omega) (by omega), r1, nI_s]
  rw [e0]
  have ep : pr_ (m'.2 14) (i' + 1) = nI i :: pr_ ((f_X7_forgets (ob_a m 26 0 t) (nI i)).2 14) i' := by rw [e14, s1_pr]
  refine ⟨⟨B, b1, b2, (r5 4 (by decide)).trans b3, e3.trans b4⟩, ⟨G, g1, g2, (r5 5 (by decide)).trans g3, e4.trans g4⟩, ?_, ?_, ?_, i' + 1, by omega, rfl, e13, ?_, ?_, ?_⟩
  · rw [e9, ← c9]; exact r4 0 (by decide)
  · rw [e10, ← c10]; exact r4 1 (by decide)
  · rw [e10]
    intro j
    by_cases e : j = i
    · subst e; rw [pk_us]; exact Or.inl rfl
    · rw [pk_un e]; exact zz j
  · rw [ep]
    show pr_ (upd (s1_ (r.2 2) i') 0 (nI i)) (i' + 1) = _
    rw [s1_pr, r3', p3']
  · rw [ep]; exact List.nodup_cons.mpr ⟨nm, nd⟩
  · intro x hx
    rw [ep] at hx
    unfold iB_
    rw [e3]
    rcases List.mem_cons.mp hx with q | q
    · rw [q]; exact hi
    · exact mb x q
/-- the card behind a write -/
theorem rA_wr {c : cd_S} {m m' : ob_S} {p k q : ob_S} (h : rA_ c m) (f1 : ∀ j, j ≠ 13 → j ≠ 8 → j ≠ 23 → m'.1 j = m.1 j) (f2 : ∀ j, j < 24 → j ≠ 9 → j ≠ 10 → j ≠ 14 → m'.2 j = m.2 j) (h8 : m'.1 8 = m.1 8 + 1) (hk : rM_ k m') (hq : rQ_ q m') (s67 : m.1 16 = 6 ∨ m.1 16 = 7) : rA_ (va_up (cd_i (va_up (va_up c 4 p) 1 k) 9 ((c 0).1 9 + 1)) 4 q) m' := by
  obtain ⟨hM, hT, hW, hQ, hE, hS, hK, hO, hX⟩ := h
  have g : ∀ j, (j ≠ 13 ∧ j ≠ 8 ∧ j ≠ 23) → m'.1 j = m.1 j := fun j z => f1 j z.1 z.2.1 z.2.2
  refine ⟨hk, ?_, ?_, hq, ?_, ?_, ?_, ?_, ?_⟩
  · show rT_ (c 2) m'
    unfold rT_
    rw [g 0 (by decide), f2 1 (by decide) (by decide) (by decide) (by decide)]; exact hT
  · show rW_ (c 3) m'
    unfold rW_
    rw [g 11 (by decide), g 21 (by decide), f2 12 (by decide) (by decide) (by decide) (by decide)]; exact hW
  · show rE_ (c 5) m'
    unfold rE_ iB_
    rw [g 32 (by decide), g 33 (by decide), g 34 (by decide), g 28 (by decide), g 29 (by decide), g 27 (by decide), g 3 (by decide)]; exact hE
  · show rS_ (c 6) m'
    unfold rS_
    rw [g 35 (by decide), g 36 (by decide), g 37 (by decide), g 30 (by decide)]; exact hS
  · show rK_ (c 7) m'
    unfold rK_
    rw [g 18 (by decide), g 19 (by decide), g 20 (by decide)]; exact hK
  · obtain ⟨o1, o2, o3, o4, o5, o6, o7, o8, o9, o10, o11⟩ := hO
    refine ⟨?_, ?_, ?_, ?_, ?_, ?_, ?_, ?_, ?_, ?_, ?_⟩
    · rw [g 5 (by decide)]; exact o1
    · rw [g 6 (by decide)]; exact o2
    · rw [h8, ← o3]; rfl
    · rw [g 7 (by decide)]; exact o4
    · rw [g 2 (by decide)]; exact o5
    · rw [g 2 (by decide)]; exact o6
    · rw [g 17 (by decide)]; exact o7
    · rw [g 22 (by decide)]; exact o8
    · rw [g 31 (by decide)]; exact o9
    · rw [g 15 (by decide), g 16 (by decide), g 21 (by decide)]; exact o10
    · rw [g 21 (by decide)]; exact o11
  · unfold rX_
    rw [g 16 (by decide), g 15 (by decide), g 35 (by decide), g 36 (by decide), g 3 (by decide)]
    exact ⟨hX.1, hX.2.1, Or.inr s67, hX.2.2.2⟩
theorem W_tick {c : cd_S} {m : ob_S} (h : rA_ c m) (s67 : m.1 16 = 6 ∨ m.1 16 = 7) (hq : ¬ m.1 23 ≤ 0) : rA_ (f_X6_writeFurther c) (f_X7_writes m) := by
  obtain ⟨hM, hT, hW, hQ, hE, hS, hK, hO, hX⟩ := id h
  have t0 : Int32.toNatClampNeg 0 = 0 := by decide
  have sz : (c 4).1 2 = m.1 23 := hQ.1
  have q : (c 4).1 3 = m.2 26 0 ∧ (c 4).2 0 0 = m.2 24 0 ∧ (c 4).2 1 0 = m.2 25 0 ∧ iB_ m (m.2 24 0) := by
    rcases hQ.2 with z | z | z
    · exfalso; apply hq; rw [z.1]; decide
    · exact z.2
    · exact z.2.1
  have tl : ∀ x, f_X4_tellOf (f_X4_tickFirst (c 4)) 0 x = (if x = 0 then (c 4).2 0 0 else if x = 1 then (c 4).2 1 0 else (c 4).1 3 + 1) := fun x => (if_neg (by decide)).trans ((if_neg (by show ¬ (c 4).1 2 ≤ 0; rw [sz]; exact hq)).trans (if_pos (by decide)))
  have tl0 : f_X4_tellOf (f_X4_tickFirst (c 4)) 0 0 = m.2 24 0 := (tl 0).trans ((if_pos rfl).trans q.2.1)
  have tl1 : f_X4_tellOf (f_X4_tickFirst (c 4)) 0 1 = m.2 25 0 := (tl 1).trans ((if_neg (by decide)).trans ((if_pos rfl).trans q.2.2.1))
  have tl2 : f_X4_tellOf (f_X4_tickFirst (c 4)) 0 2 = m.2 26 0 + 1 := (tl 2).trans ((if_neg (by decide)).trans ((if_neg (by decide)).trans (by rw [q.1])))
  have tb := tb_eq hK.1 hK.2.2.2.1
  by_cases d : (if m.1 18 = 0 then (4 : Int32) else (if m.1 18 = 1 then 2 else 1)) ≤ m.2 26 0 + 1
  rotate_left
  · have e1 : f_X6_writeFurther c = va_up c 4 (f_X4_tickFirst (c 4)) := if_neg (by rw [tb, tl2]; exact d)
    have e2 : f_X7_writes m = ob_a m 26 0 (m.2 26 0 + 1) := if_neg d
    rw [e1, e2]
    refine ⟨hM, hT, hW, ⟨sz, ?_⟩, hE, hS, hK, hO, hX⟩
    rcases hQ.2 with z | z | z
    · exfalso; apply hq; rw [z.1]; decide
    · exact Or.inr (Or.inl ⟨z.1, by show (c 4).1 3 + 1 = m.2 26 0 + 1; rw [z.2.1], z.2.2⟩)
    · exact Or.inr (Or.inr ⟨z.1, ⟨by show (c 4).1 3 + 1 = m.2 26 0 + 1; rw [z.2.1.1], z.2.1.2⟩, z.2.2⟩)
  · obtain ⟨i, i1, i2⟩ := iB_nI h q.2.2.2
    have hi : iB_ m (nI i) := by rw [← i2]; exact q.2.2.2
    obtain ⟨a, a1, p1, p2, p3, pm⟩ := M_put hM hi i1 (m.2 25 0) (m.2 26 0 + 1)
    have e1 : f_X6_writeFurther c = va_up (cd_i (va_up (va_up c 4 (f_X4_tickFirst (c 4))) 1 (f_X3_put (c 1) (nI i) (m.2 25 0))) 9 ((c 0).1 9 + 1)) 4 (f_X4_dropFirst (f_X4_tickFirst (c 4))) := (if_pos (by rw [tb, tl2]; exact d)).trans (by rw [tl0, tl1, i2])
    generalize hr : f_X7_forgets (ob_a m 26 0 (m.2 26 0 + 1)) (nI i) = r at *
    have e2 : f_X7_writes m = ew_ (nI i) (r.1, va_up (va_up (va_up r.2 9 (upd (r.2 9) i (m.2 25 0))) 10 (upd (r.2 10) i 0)) 14 (s1_ (r.2 14) a)) := by
      refine (if_pos d).trans ?_
      show k_X7_writes_80 (m.2 24 0) 64 ((f_X7_forgets (ob_a m 26 0 (m.2 26 0 + 1)) (m.2 24 0)).1 13) (ob_a (ob_a (f_X7_forgets (ob_a m 26 0 (m.2 26 0 + 1)) (m.2 24 0)) 9 (Int32.toNatClampNeg (m.2 24 0)) ((f_X7_forgets (ob_a m 26 0 (m.2 26 0 + 1)) (m.2 24 0)).2 25 0)) 10 (Int32.toNatClampNeg (m.2 24 0)) 0) = _
      rw [i2, hr, p1, tn_nI (by omega), wr_loop (nI i) 64 a _ (by omega) (by omega), p3 25 (by decide)]
      rfl
    rw [e1, e2]
    have j24 : r.2 24 = m.2 24 := p3 24 (by decide)
    have j25 : r.2 25 = m.2 25 := p3 25 (by decide)
    have j26 : r.2 26 = upd (m.2 26) 0 (m.2 26 0 + 1) := p3 26 (by decide)
    have j23 : r.1 23 = m.1 23 := p2 23 (by decide)
    have mem : rM_ (f_X3_put (c 1) (nI i) (m.2 25 0)) (ew_ (nI i) (r.1, va_up (va_up (va_up r.2 9 (upd (r.2 9) i (m.2 25 0))) 10 (upd (r.2 10) i 0)) 14 (s1_ (r.2 14) a))) := by
      refine pm _ (p2 3 (by decide)) (p2 4 (by decide)) ?_ ?_ ?_ rfl
      · show upd (r.2 9) i (m.2 25 0) = _
        rw [p3 9 (by decide)]; rfl
      · show upd (r.2 10) i 0 = _
        rw [p3 10 (by decide)]; rfl
      · show r.1 13 + 1 = _
        rw [p1, nI_s]
    refine rA_wr h ?_ ?_ ?_ mem ?_ s67
    · intro j h13 h8 h23
      refine Eq.trans ?_ (p2 j h13)
      show upd (upd (upd r.1 13 _) 8 _) 23 _ j = r.1 j
      rw [pk_un h23, pk_un h8, pk_un h13]
    · intro j j24 h9 h10 h14
      have z : (ew_ (nI i) (r.1, va_up (va_up (va_up r.2 9 (upd (r.2 9) i (m.2 25 0))) 10 (upd (r.2 10) i 0)) 14 (s1_ (r.2 14) a))).2 j = r.2 j := (if_neg (by omega)).trans ((if_neg (by omega)).trans ((if_neg (by omega)).trans ((if_neg h14).trans ((if_neg h14).trans ((if_neg h10).trans (if_neg h9))))))
      rw [z, p3 j h14]
      exact if_neg (by omega)
    · show r.1 8 + 1 = _
      rw [p2 8 (by decide)]
    · rcases hQ.2 with z | z | z
      · exfalso; apply hq; rw [z.1]; decide
      · have s1 : (f_X4_tickFirst (c 4)).1 2 = 1 := sz.trans z.1
        have ed : f_X4_dropFirst (f_X4_tickFirst (c 4)) = ob_i (ob_i (f_X4_tickFirst (c 4)) 2 0) 3 0 := (if_pos (by rw [s1]; decide)).trans (by rw [s1]; rfl)
        rw [ed]
        refine ⟨?_, Or.inl ⟨?_, rfl⟩⟩
        · show 0 = r.1 23 - 1
          rw [j23, z.1]; rfl
        · show r.1 23 - 1 = 0
          rw [j23, z.1]; rfl
      · have s1 : (f_X4_tickFirst (c 4)).1 2 = 2 := sz.trans z.1
        obtain ⟨z1, _, z2, z3, z4, z5⟩ := z
        have ed : f_X4_dropFirst (f_X4_tickFirst (c 4)) = ob_i (ob_i (ob_a (ob_a (f_X4_tickFirst (c 4)) 0 0 ((c 4).2 0 1)) 1 0 ((c 4).2 1 1)) 2 1) 3 0 := by
          refine (if_neg (by rw [s1]; decide)).trans ((if_neg (by decide)).trans ?_)
          refine (if_pos (by show (f_X4_tickFirst (c 4)).1 2 ≤ 1 + 1; rw [s1]; decide)).trans ?_
          show ob_i (ob_i (ob_a (ob_a (f_X4_tickFirst (c 4)) 0 0 ((c 4).2 0 1)) 1 0 ((c 4).2 1 1)) 2 (if 0 < (f_X4_tickFirst (c 4)).1 2 - 1 then (f_X4_tickFirst (c 4)).1 2 - 1 else 0)) 3 0 = _
          rw [s1]; rfl
        rw [ed]
        refine ⟨?_, Or.inr (Or.inl ⟨?_, ?_, ?_, ?_, ?_⟩)⟩
        · show 1 = r.1 23 - 1
          rw [j23, z1]; rfl
        · show r.1 23 - 1 = 1
          rw [j23, z1]; rfl
        · show 0 = r.2 26 1
          rw [j26, ← z2]; rfl
        · show (c 4).2 0 1 = r.2 24 1
          rw [j24, z3]
        · show (c 4).2 1 1 = r.2 25 1
          rw [j25, z4]
        · show 0 ≤ (r.2 24 1).toInt ∧ (r.2 24 1).toInt < (r.1 3).toInt
          rw [j24, p2 3 (by decide)]; exact z5
theorem E_tick {c : cd_S} {m : ob_S} (h : rA_ c m) (hl : ¬ m.1 28 ≤ 0) : rA_ (f_X6_eraseFurther c) (if m.1 29 + 1 = 2 then me_ m else ob_i m 29 (m.1 29 + 1)) := by
  obtain ⟨hM, hT, hW, hQ, hE, hS, hK, hO, hX⟩ := id h
  obtain ⟨k1, k2, e4, e5, e29, e6, e7⟩ := id hE
  have l := nle_t hl
  rw [z_t] at l
  rcases e29 with z | z
  · have e1 : f_X6_eraseFurther c = va_up c 5 (ob_i (c 5) 5 ((c 5).1 5 + 1)) := by
      have e0 : f_X0_tickGroup (c 5) = (0, ob_i (c 5) 5 ((c 5).1 5 + 1)) := if_neg (by rw [e5, z]; decide)
      unfold f_X6_eraseFurther
      rw [e0]; rfl
    rw [e1, if_neg (by rw [z]; decide)]
    refine ⟨hM, hT, hW, hQ, ⟨k1, k2, e4, ?_, ?_, e6, e7⟩, hS, hK, hO, hX⟩
    · show (c 5).1 5 + 1 = m.1 29 + 1
      rw [e5]
    · right
      show m.1 29 + 1 = 1
      rw [z]; rfl
  · have e0 : f_X0_tickGroup (c 5) = (1, ob_i (ob_i (ob_i (ob_i (c 5) 5 ((c 5).1 5 + 1)) 3 ((c 5).1 3 + 1)) 4 ((c 5).1 4 - 1)) 5 0) := if_pos (by rw [e5, z]; decide)
    have e3 : (c 5).1 3 = m.1 27 := e7 l
    obtain ⟨g, g1, g2, _⟩ := of_rng (n := 64) e6.2.1 (by omega)
    have e1 : f_X6_eraseFurther c = va_up (va_up c 5 (ob_i (ob_i (ob_i (ob_i (c 5) 5 ((c 5).1 5 + 1)) 3 ((c 5).1 3 + 1)) 4 ((c 5).1 4 - 1)) 5 0)) 1 (f_X3_blank (c 1) (nI g * (c 1).1 5) ((c 1).1 5) 0) := by
      unfold f_X6_eraseFurther
      rw [e0, ← g2, ← e3]; rfl
    rw [e1, if_pos (by rw [z]; decide)]
    obtain ⟨r1, r2⟩ := M_group (m := ob_i m 29 (m.1 29 + 1)) hM g1 (t := 0) (Or.inl rfl)
    unfold me_
    rw [g2]
    generalize hr : f_X7_groupEmpties (ob_i m 29 (m.1 29 + 1)) (nI g) 0 = r at *
    obtain ⟨f1, f2⟩ := r2
    have f1' : ∀ j, j ≠ 13 → j ≠ 29 → r.1 j = m.1 j := fun j a b => (f1 j a).trans (pk_un b)
    have hf : fr_ m (ob_i r 29 1) := by
      refine ⟨fun j a => ?_, f2⟩
      by_cases b : j = 29
      · subst b
        show upd r.1 29 1 29 = m.1 29
        rw [pk_us, z]
      · show upd r.1 29 1 j = m.1 j
        rw [pk_un b]; exact f1' j a b
    obtain ⟨qM, qT, qW, qQ, qE, qS, qK, qO, qX⟩ := rA_mem (k := f_X3_blank (c 1) (nI g * (c 1).1 5) ((c 1).1 5) 0) h hf r1
    obtain ⟨w1, w2, w4, w5, w29, w6, w7⟩ := qE
    have n27 : r.1 27 = m.1 27 := f1' 27 (by decide) (by decide)
    have n28 : r.1 28 = m.1 28 := f1' 28 (by decide) (by decide)
    have t27 : (m.1 27 + 1).toInt = (m.1 27).toInt + 1 := inc_b (n := 100) (by omega) (by decide)
    have t28 : (m.1 28 - 1).toInt = (m.1 28).toInt - 1 := sub1_t (by omega)
    refine ⟨qM, qT, qW, qQ, ⟨w1, w2, ?_, rfl, Or.inl rfl, ?_, ?_⟩, qS, qK, qO, qX⟩
    · show (c 5).1 4 - 1 = r.1 28 - 1
      rw [e4, n28]
    · show 0 ≤ (r.1 28 - 1).toInt ∧ 0 ≤ (r.1 27 + 1).toInt ∧ (r.1 27 + 1).toInt + (r.1 28 - 1).toInt ≤ 64
      rw [n27, n28, t27, t28]; omega
    · intro _
      show (c 5).1 3 + 1 = r.1 27 + 1
      rw [e3, n27]
theorem on_same {m : ob_S} {k : cd_S} (h : rA_ k m) (s67 : m.1 16 = 6 ∨ m.1 16 = 7) : ¬ m.1 15 = 0 := by
  intro z
  have := h.2.2.2.2.2.2.2.2.2.1 z
  rcases s67 with y | y <;> rw [y] at this <;> exact absurd this (by decide)
theorem T_one {c : cd_S} {m : ob_S} (h : rA_ c m) : rA_ (f_X6_work (cd_i c 10 ((c 0).1 10 + 1))) (f_X7_oneTick m) := by
  have h2 := rA_tk h
  generalize cd_i c 10 ((c 0).1 10 + 1) = c2 at *
  by_cases on : m.1 15 = 0
  · rw [ot_0 (Or.inl on)]
    have st : (c2 0).1 12 = -1 := by
      rcases h2.2.2.2.2.2.2.2.1.2.2.2.2.2.2.2.2.2.1 with z | z
      · exact z.2.1
      · exact absurd (on.symm.trans z.1) (by decide)
    rw [wk_0 (by rw [st]; decide) (by rw [st]; decide)]
    exact h2
  · obtain ⟨_, q12, _⟩ := on_of h2 on
    have q12' : (c2 0).1 12 = m.1 16 := q12
    by_cases s67 : m.1 16 = 6 ∨ m.1 16 = 7
    · rw [ot_1 on s67, wk_1 (by rw [q12']; exact s67)]
      have e1 : (c2 4).1 2 = m.1 23 := h2.2.2.2.1.1
      have e2 : (c2 5).1 4 = m.1 28 := h2.2.2.2.2.1.2.2.1
      rw [e1, e2]
      by_cases a : m.1 23 ≤ 0
      · rw [if_pos a, if_pos a]
        by_cases b : m.1 28 ≤ 0
        · rw [if_pos b, if_pos b]
          exact T_fin h2 on
        · rw [if_neg b, if_neg b]
          have h3 := E_tick h2 b
          have on3 : ¬ (if (ob_i m 7 (m.1 7 + 1)).1 29 + 1 = 2 then me_ (ob_i m 7 (m.1 7 + 1)) else ob_i (ob_i m 7 (m.1 7 + 1)) 29 ((ob_i m 7 (m.1 7 + 1)).1 29 + 1)).1 15 = 0 := by
            have w1 := pw_eq h2
            have w2 := pw_eq h3
            have w3 : (f_X6_eraseFurther c2) 0 = c2 0 := by
              unfold f_X6_eraseFurther
              dsimp only
              split <;> rfl
            rw [← w2]
            show ¬ (if ((f_X6_eraseFurther c2) 0).1 12 = -1 then (0 : Int32) else 1) = 0
            rw [w3]
            have w1' : (if (c2 0).1 12 = -1 then (0 : Int32) else 1) = m.1 15 := w1
            rw [w1']; exact on
          have h4 := T_fin h3 on3
          by_cases d : m.1 29 + 1 = 2
          · rw [if_pos d]
            rw [if_pos (show (ob_i m 7 (m.1 7 + 1)).1 29 + 1 = 2 from d)] at h4
            exact h4
          · rw [if_neg d]
            rw [if_neg (show ¬ (ob_i m 7 (m.1 7 + 1)).1 29 + 1 = 2 from d)] at h4
            exact h4
      · rw [if_neg a, if_neg a]
        have h3 := W_tick h2 s67 a
        have on3 : ¬ (f_X7_writes (ob_i m 7 (m.1 7 + 1))).1 15 = 0 := by
          have w1 := pw_eq h2
          have w2 := pw_eq h3
          have w3 : ((f_X6_writeFurther c2) 0).1 12 = (c2 0).1 12 := by
            unfold f_X6_writeFurther
            dsimp only
            split <;> rfl
          rw [← w2]
          show ¬ (if ((f_X6_writeFurther c2) 0).1 12 = -1 then (0 : Int32) else 1) = 0
          rw [w3]
          have w1' : (if (c2 0).1 12 = -1 then (0 : Int32) else 1) = m.1 15 := w1
          rw [w1']; exact on
        exact T_fin h3 on3
    · have n6 : ¬ m.1 16 = 6 := fun z => s67 (Or.inl z)
      have n7 : ¬ m.1 16 = 7 := fun z => s67 (Or.inr z)
      rw [ot_0 (Or.inr ⟨n6, n7⟩), wk_0 (by rw [q12']; exact n6) (by rw [q12']; exact n7)]
      exact h2
theorem tk_loop (x : Int32) : ∀ (n : Nat) (i : Int32) (c : cd_S) (m : ob_S), rA_ c m → eq_ (k_X6_tick_15 x n i c) (k_X7_tick_16 x n i m) := by
  intro n
  induction n with
  | zero => intro i c m h; exact ⟨rfl, h⟩
  | succ n ih =>
    intro i c m h
    by_cases a : x ≤ i
    · have e1 : k_X6_tick_15 x (n + 1) i c = ((c 0).1 10, c) := if_pos a
      have e2 : k_X7_tick_16 x (n + 1) i m = (m.1 7, m) := if_pos a
      rw [e1, e2]
      exact ⟨h.2.2.2.2.2.2.2.1.2.2.2.1, h⟩
    · have e1 : k_X6_tick_15 x (n + 1) i c = k_X6_tick_15 x n (i + 1) (f_X6_work (cd_i c 10 ((c 0).1 10 + 1))) := if_neg a
      have e2 : k_X7_tick_16 x (n + 1) i m = k_X7_tick_16 x n (i + 1) (f_X7_oneTick m) := if_neg a
      rw [e1, e2]
      exact ih _ _ _ (T_one h)
theorem T_tick {c : cd_S} {m : ob_S} (h : rA_ c m) (x : Int32) : eq_ (f_X6_tick c x) (f_X7_tick m x) := by
  by_cases a : f_X6_isOutside x 1 400 = 0
  · have e1 : f_X6_tick c x = k_X6_tick_15 x 401 0 c := if_pos a
    have e2 : f_X7_tick m x = k_X7_tick_16 x 401 0 m := if_neg (in_yes (by decide) (by decide) a)
    rw [e1, e2]
    exact tk_loop x 401 0 c m h
  · have e1 : f_X6_tick c x = (-1, c) := if_neg a
    have e2 : f_X7_tick m x = (-1, m) := if_pos (in_no (by decide) (by decide) a)
    rw [e1, e2]; exact ⟨rfl, h⟩
