/-! Whether a command is one now -/
def oc_ (x s l : Int32) : Int32 := f_X6_isOpenTo (fun _ => (fun k => if k = 16 then l else s, fun _ _ => 0)) x
def on1_ (x s : Int32) : Int32 := f_X7_isOne (fun _ => s, fun _ _ => 0) x
def om_ (x s l : Int32) : Int32 := if on1_ x s = 0 then 0 else if l = 0 then 1 else if f_X7_isStarred x = 0 then 1 else 0
set_option maxRecDepth 100000 in
theorem op_tab : ∀ i : Fin 64, ∀ j : Fin 8, ∀ k : Fin 2, oc_ (nI i) (nI j) (nI k) = om_ (nI i) (nI j) (nI k) := by decide +kernel
def cm_ (x s : Int32) : Bool := decide (on1_ x s = 0) || (decide (x = 0) || (decide (x = 1) && decide (s = 0)) || (decide (x = 2) && decide (s = 1)) || (decide (x = 3) && (decide (s = 2) || decide (s = 3))) || (decide (x = 7) && (decide (s = 3) || decide (s = 4))) || (decide (x = 12) && (decide (s = 5) || decide (s = 6))) || decide (x = 13) || (decide (s = 4) && (decide (x = 6) || decide (x = 17) || decide (x = 18) || decide (x = 21) || decide (x = 22) || decide (x = 23) || decide (x = 24) || decide (x = 25) || decide (x = 32) || decide (x = 33) || decide (x = 38) || decide (x = 42))))
set_option maxRecDepth 100000 in
theorem cm_tab : ∀ i : Fin 64, ∀ j : Fin 8, ∀ _k : Fin 1, cm_ (nI i) (nI j) = true := by decide +kernel
theorem x_rng {x : Int32} (hx : f_X6_isOutside x 0 63 = 0) : 0 ≤ x.toInt ∧ x.toInt < (64 : Nat) := by
  have h := os_t hx
  have e : (63 : Int32).toInt = 63 := by decide
  rw [z_t, e] at h
  omega
theorem s_rng {c : cd_S} {m : ob_S} (h : rA_ c m) : 0 ≤ (m.1 16).toInt ∧ (m.1 16).toInt < (8 : Nat) := by
  obtain ⟨s, s1, s2⟩ := st_of h
  rw [s2, nI_toInt (by omega)]; omega
theorem l_rng {c : cd_S} {m : ob_S} (h : rA_ c m) : 0 ≤ (m.1 21).toInt ∧ (m.1 21).toInt < (2 : Nat) := by
  rcases lk_01 h with z | z <;> rw [z] <;> decide
theorem open_of {c : cd_S} {m : ob_S} (h : rA_ c m) (on : ¬ m.1 15 = 0) {x : Int32} (hx : f_X6_isOutside x 0 63 = 0) : f_X6_isOpenTo c x = (if f_X7_isOne m x = 0 then 0 else if m.1 21 = 0 then 1 else if f_X7_isStarred x = 0 then 1 else 0) := by
  obtain ⟨_, q12, q16⟩ := on_of h on
  have t := tab3 (P := fun x s l => oc_ x s l = om_ x s l) op_tab (x_rng hx) (s_rng h) (l_rng h)
  rw [← q12, ← q16] at t
  have e1 : f_X6_isOpenTo c x = oc_ x ((c 0).1 12) ((c 0).1 16) := rfl
  have e2 : om_ x (m.1 16) (m.1 21) = (if f_X7_isOne m x = 0 then 0 else if m.1 21 = 0 then 1 else if f_X7_isStarred x = 0 then 1 else 0) := rfl
  rw [e1, t, q12, q16, e2]
theorem cmds_of {c : cd_S} {m : ob_S} (h : rA_ c m) {x : Int32} (hx : f_X6_isOutside x 0 63 = 0) (h1 : ¬ f_X7_isOne m x = 0) : x = 0 ∨ (x = 1 ∧ m.1 16 = 0) ∨ (x = 2 ∧ m.1 16 = 1) ∨ (x = 3 ∧ (m.1 16 = 2 ∨ m.1 16 = 3)) ∨ (x = 7 ∧ (m.1 16 = 3 ∨ m.1 16 = 4)) ∨ (x = 12 ∧ (m.1 16 = 5 ∨ m.1 16 = 6)) ∨ x = 13 ∨ (m.1 16 = 4 ∧ (x = 6 ∨ x = 17 ∨ x = 18 ∨ x = 21 ∨ x = 22 ∨ x = 23 ∨ x = 24 ∨ x = 25 ∨ x = 32 ∨ x = 33 ∨ x = 38 ∨ x = 42)) := by
  have t := tab3 (P := fun x s _ => cm_ x s = true) cm_tab (x_rng hx) (s_rng h) (z := 0) (by decide)
  have n : ¬ on1_ x (m.1 16) = 0 := h1
  have t2 : cm_ x (m.1 16) = true := t
  simp only [cm_, Bool.or_eq_true, Bool.and_eq_true, decide_eq_true_eq] at t2
  rcases t2 with t2 | t2
  · exact absurd t2 n
  · rcases t2 with ((((((t2 | t2) | t2) | t2) | t2) | t2) | t2) | t2
    · exact Or.inl t2
    · exact Or.inr (Or.inl t2)
    · exact Or.inr (Or.inr (Or.inl t2))
    · exact Or.inr (Or.inr (Or.inr (Or.inl t2)))
    · exact Or.inr (Or.inr (Or.inr (Or.inr (Or.inl t2))))
    · exact Or.inr (Or.inr (Or.inr (Or.inr (Or.inr (Or.inl t2)))))
    · exact Or.inr (Or.inr (Or.inr (Or.inr (Or.inr (Or.inr (Or.inl t2))))))
    · refine Or.inr (Or.inr (Or.inr (Or.inr (Or.inr (Or.inr (Or.inr ⟨t2.1, ?_⟩))))))
      have t3 := t2.2
      simp only [or_assoc] at t3
      exact t3
/-! The command itself -/
def gm_ (u : ob_S) (x1 x2 : Int32) : Int32 × ob_S := if 16 ≤ x1 then (if 32 ≤ x1 then f_X7_erases u x1 x2 else f_X7_streams u x1 x2) else f_X7_first u x1 x2
def bk_ (u : ob_S) : ob_S := ob_i (ob_i u 32 0) 22 (u.1 22 ||| 8)
def ms_ (u : ob_S) (x1 x2 : Int32) : Int32 × ob_S := if u.1 32 ≤ 0 then gm_ u x1 x2 else (if x1 = 13 then gm_ u x1 x2 else (if x1 = 33 then (if u.1 32 = 1 then gm_ u x1 x2 else (if x1 = 38 then (if u.1 32 = 2 then gm_ u x1 x2 else gm_ (bk_ u) x1 x2) else gm_ (bk_ u) x1 x2)) else (if x1 = 38 then (if u.1 32 = 2 then gm_ u x1 x2 else gm_ (bk_ u) x1 x2) else gm_ (bk_ u) x1 x2)))
def sm_ (u : ob_S) (x1 x2 x3 : Int32) : Int32 × ob_S := if u.1 15 = 0 then (-4, u) else (if x3 = f_X7_check u x1 x2 then (if f_X7_isOne u x1 = 0 then (-4, ob_i u 22 (u.1 22 ||| 2)) else (if u.1 21 = 0 then ms_ u x1 x2 else (if f_X7_isStarred x1 = 0 then ms_ u x1 x2 else (-4, ob_i u 22 (u.1 22 ||| 2))))) else (-4, ob_i u 22 (u.1 22 ||| 1)))
set_option maxHeartbeats 4000000 in
theorem send_sm (u : ob_S) (x1 x2 x3 : Int32) (h1 : ¬ f_X7_in (Int32.toInt64 x1) 0 63 = 0) (h2 : ¬ f_X7_in (Int32.toInt64 x2) 0 65535 = 0) (h3 : ¬ f_X7_in (Int32.toInt64 x3) 0 127 = 0) : f_X7_send u x1 x2 x3 = sm_ u x1 x2 x3 := (if_neg h1).trans ((if_neg h2).trans (if_neg h3))
def cs_ (c : cd_S) (x a z : Int32) : Int32 × cd_S := if (f_X6_hears c x a z).1 = 0 then (-4, (f_X6_hears c x a z).2) else f_X6_obey (f_X6_hears c x a z).2 x a
theorem pe_ {α β : Type} (x : α × β) : (x.1, x.2) = x := rfl
theorem ob_0 (c : cd_S) (a : Int32) : f_X6_obey c 0 a = f_X6_reset c := (if_pos rfl).trans (pe_ (f_X6_reset c))
theorem ob_1 (c : cd_S) (a : Int32) : f_X6_obey c 1 a = f_X6_wake c := (if_neg (by decide)).trans ((if_pos rfl).trans (pe_ (f_X6_wake c)))
theorem ob_2 (c : cd_S) (a : Int32) : f_X6_obey c 2 a = f_X6_tellNumber c := (if_neg (by decide)).trans ((if_neg (by decide)).trans ((if_pos rfl).trans (pe_ (f_X6_tellNumber c))))
theorem ob_3 (c : cd_S) (a : Int32) : f_X6_obey c 3 a = f_X6_takeAddress c := (if_neg (by decide)).trans ((if_neg (by decide)).trans ((if_neg (by decide)).trans ((if_pos rfl).trans (pe_ (f_X6_takeAddress c)))))
theorem ob_6 (c : cd_S) (a : Int32) : f_X6_obey c 6 a = f_X6_switchLines c a := (if_neg (by decide)).trans ((if_neg (by decide)).trans ((if_neg (by decide)).trans ((if_neg (by decide)).trans ((if_pos rfl).trans (pe_ (f_X6_switchLines c a))))))
theorem ob_7 (c : cd_S) (a : Int32) : f_X6_obey c 7 a = f_X6_choose c a := (if_neg (by decide)).trans ((if_neg (by decide)).trans ((if_neg (by decide)).trans ((if_neg (by decide)).trans ((if_neg (by decide)).trans ((if_pos rfl).trans (pe_ (f_X6_choose c a)))))))
theorem ob_12 (c : cd_S) (a : Int32) : f_X6_obey c 12 a = f_X6_stop c := (if_neg (by decide)).trans ((if_neg (by decide)).trans ((if_neg (by decide)).trans ((if_neg (by decide)).trans ((if_neg (by decide)).trans ((if_neg (by decide)).trans ((if_pos rfl).trans (pe_ (f_X6_stop c))))))))
theorem ob_13 (c : cd_S) (a : Int32) : f_X6_obey c 13 a = f_X6_tellStatus c a := (if_neg (by decide)).trans ((if_neg (by decide)).trans ((if_neg (by decide)).trans ((if_neg (by decide)).trans ((if_neg (by decide)).trans ((if_neg (by decide)).trans ((if_neg (by decide)).trans ((if_pos rfl).trans (pe_ (f_X6_tellStatus c a)))))))))
theorem ob_17 (c : cd_S) (a : Int32) : f_X6_obey c 17 a = f_X6_beginStream c 5 a 1 := (if_neg (by decide)).trans ((if_neg (by decide)).trans ((if_neg (by decide)).trans ((if_neg (by decide)).trans ((if_neg (by decide)).trans ((if_neg (by decide)).trans ((if_neg (by decide)).trans ((if_neg (by decide)).trans ((if_pos rfl).trans (pe_ (f_X6_beginStream c 5 a 1))))))))))
theorem ob_18 (c : cd_S) (a : Int32) : f_X6_obey c 18 a = f_X6_beginStream c 5 a 0 := (if_neg (by decide)).trans ((if_neg (by decide)).trans ((if_neg (by decide)).trans ((if_neg (by decide)).trans ((if_neg (by decide)).trans ((if_neg (by decide)).trans ((if_neg (by decide)).trans ((if_neg (by decide)).trans ((if_neg (by decide)).trans ((if_pos rfl).trans (pe_ (f_X6_beginStream c 5 a 0)))))))))))
theorem ob_21 (c : cd_S) (a : Int32) : f_X6_obey c 21 a = f_X6_movePoint c a := (if_neg (by decide)).trans ((if_neg (by decide)).trans ((if_neg (by decide)).trans ((if_neg (by decide)).trans ((if_neg (by decide)).trans ((if_neg (by decide)).trans ((if_neg (by decide)).trans ((if_neg (by decide)).trans ((if_neg (by decide)).trans ((if_neg (by decide)).trans ((if_pos rfl).trans (pe_ (f_X6_movePoint c a))))))))))))
theorem ob_22 (c : cd_S) (a : Int32) : f_X6_obey c 22 a = ((c 0).1 9, c) := (if_neg (by decide)).trans ((if_neg (by decide)).trans ((if_neg (by decide)).trans ((if_neg (by decide)).trans ((if_neg (by decide)).trans ((if_neg (by decide)).trans ((if_neg (by decide)).trans ((if_neg (by decide)).trans ((if_neg (by decide)).trans ((if_neg (by decide)).trans ((if_neg (by decide)).trans (if_pos rfl)))))))))))
theorem ob_23 (c : cd_S) (a : Int32) : f_X6_obey c 23 a = f_X6_expect c a := (if_neg (by decide)).trans ((if_neg (by decide)).trans ((if_neg (by decide)).trans ((if_neg (by decide)).trans ((if_neg (by decide)).trans ((if_neg (by decide)).trans ((if_neg (by decide)).trans ((if_neg (by decide)).trans ((if_neg (by decide)).trans ((if_neg (by decide)).trans ((if_neg (by decide)).trans ((if_neg (by decide)).trans ((if_pos rfl).trans (pe_ (f_X6_expect c a))))))))))))))
theorem ob_24 (c : cd_S) (a : Int32) : f_X6_obey c 24 a = f_X6_beginStream c 6 a 1 := (if_neg (by decide)).trans ((if_neg (by decide)).trans ((if_neg (by decide)).trans ((if_neg (by decide)).trans ((if_neg (by decide)).trans ((if_neg (by decide)).trans ((if_neg (by decide)).trans ((if_neg (by decide)).trans ((if_neg (by decide)).trans ((if_neg (by decide)).trans ((if_neg (by decide)).trans ((if_neg (by decide)).trans ((if_neg (by decide)).trans ((if_pos rfl).trans (pe_ (f_X6_beginStream c 6 a 1)))))))))))))))
theorem ob_25 (c : cd_S) (a : Int32) : f_X6_obey c 25 a = f_X6_beginStream c 6 a 0 := (if_neg (by decide)).trans ((if_neg (by decide)).trans ((if_neg (by decide)).trans ((if_neg (by decide)).trans ((if_neg (by decide)).trans ((if_neg (by decide)).trans ((if_neg (by decide)).trans ((if_neg (by decide)).trans ((if_neg (by decide)).trans ((if_neg (by decide)).trans ((if_neg (by decide)).trans ((if_neg (by decide)).trans ((if_neg (by decide)).trans ((if_neg (by decide)).trans ((if_pos rfl).trans (pe_ (f_X6_beginStream c 6 a 0))))))))))))))))
theorem ob_32 (c : cd_S) (a : Int32) : f_X6_obey c 32 a = f_X6_eraseFrom c a := (if_neg (by decide)).trans ((if_neg (by decide)).trans ((if_neg (by decide)).trans ((if_neg (by decide)).trans ((if_neg (by decide)).trans ((if_neg (by decide)).trans ((if_neg (by decide)).trans ((if_neg (by decide)).trans ((if_neg (by decide)).trans ((if_neg (by decide)).trans ((if_neg (by decide)).trans ((if_neg (by decide)).trans ((if_neg (by decide)).trans ((if_neg (by decide)).trans ((if_neg (by decide)).trans ((if_pos rfl).trans (pe_ (f_X6_eraseFrom c a)))))))))))))))))
theorem ob_33 (c : cd_S) (a : Int32) : f_X6_obey c 33 a = f_X6_eraseTo c a := (if_neg (by decide)).trans ((if_neg (by decide)).trans ((if_neg (by decide)).trans ((if_neg (by decide)).trans ((if_neg (by decide)).trans ((if_neg (by decide)).trans ((if_neg (by decide)).trans ((if_neg (by decide)).trans ((if_neg (by decide)).trans ((if_neg (by decide)).trans ((if_neg (by decide)).trans ((if_neg (by decide)).trans ((if_neg (by decide)).trans ((if_neg (by decide)).trans ((if_neg (by decide)).trans ((if_neg (by decide)).trans ((if_pos rfl).trans (pe_ (f_X6_eraseTo c a))))))))))))))))))
theorem ob_38 (c : cd_S) (a : Int32) : f_X6_obey c 38 a = f_X6_erase c := (if_neg (by decide)).trans ((if_neg (by decide)).trans ((if_neg (by decide)).trans ((if_neg (by decide)).trans ((if_neg (by decide)).trans ((if_neg (by decide)).trans ((if_neg (by decide)).trans ((if_neg (by decide)).trans ((if_neg (by decide)).trans ((if_neg (by decide)).trans ((if_neg (by decide)).trans ((if_neg (by decide)).trans ((if_neg (by decide)).trans ((if_neg (by decide)).trans ((if_neg (by decide)).trans ((if_neg (by decide)).trans ((if_neg (by decide)).trans ((if_pos rfl).trans (pe_ (f_X6_erase c)))))))))))))))))))
theorem ob_42 (c : cd_S) (a : Int32) : f_X6_obey c 42 a = f_X6_changeLock c a := (if_neg (by decide)).trans ((if_neg (by decide)).trans ((if_neg (by decide)).trans ((if_neg (by decide)).trans ((if_neg (by decide)).trans ((if_neg (by decide)).trans ((if_neg (by decide)).trans ((if_neg (by decide)).trans ((if_neg (by decide)).trans ((if_neg (by decide)).trans ((if_neg (by decide)).trans ((if_neg (by decide)).trans ((if_neg (by decide)).trans ((if_neg (by decide)).trans ((if_neg (by decide)).trans ((if_neg (by decide)).trans ((if_neg (by decide)).trans ((if_neg (by decide)).trans ((if_pos rfl).trans (pe_ (f_X6_changeLock c a))))))))))))))))))))
theorem gm_0 (m : ob_S) (a : Int32) : gm_ m 0 a = f_X7_first m 0 a := if_neg (by decide)
theorem gm_1 (m : ob_S) (a : Int32) : gm_ m 1 a = f_X7_first m 1 a := if_neg (by decide)
theorem gm_2 (m : ob_S) (a : Int32) : gm_ m 2 a = f_X7_first m 2 a := if_neg (by decide)
theorem gm_3 (m : ob_S) (a : Int32) : gm_ m 3 a = f_X7_first m 3 a := if_neg (by decide)
theorem gm_6 (m : ob_S) (a : Int32) : gm_ m 6 a = f_X7_first m 6 a := if_neg (by decide)
theorem gm_7 (m : ob_S) (a : Int32) : gm_ m 7 a = f_X7_first m 7 a := if_neg (by decide)
theorem gm_12 (m : ob_S) (a : Int32) : gm_ m 12 a = f_X7_first m 12 a := if_neg (by decide)
theorem gm_13 (m : ob_S) (a : Int32) : gm_ m 13 a = f_X7_first m 13 a := if_neg (by decide)
theorem gm_17 (m : ob_S) (a : Int32) : gm_ m 17 a = f_X7_streams m 17 a := (if_pos (by decide)).trans (if_neg (by decide))
theorem gm_18 (m : ob_S) (a : Int32) : gm_ m 18 a = f_X7_streams m 18 a := (if_pos (by decide)).trans (if_neg (by decide))
theorem gm_21 (m : ob_S) (a : Int32) : gm_ m 21 a = f_X7_streams m 21 a := (if_pos (by decide)).trans (if_neg (by decide))
theorem gm_22 (m : ob_S) (a : Int32) : gm_ m 22 a = f_X7_streams m 22 a := (if_pos (by decide)).trans (if_neg (by decide))
theorem gm_23 (m : ob_S) (a : Int32) : gm_ m 23 a = f_X7_streams m 23 a := (if_pos (by decide)).trans (if_neg (by decide))
theorem gm_24 (m : ob_S) (a : Int32) : gm_ m 24 a = f_X7_streams m 24 a := (if_pos (by decide)).trans (if_neg (by decide))
theorem gm_25 (m : ob_S) (a : Int32) : gm_ m 25 a = f_X7_streams m 25 a := (if_pos (by decide)).trans (if_neg (by decide))
theorem gm_32 (m : ob_S) (a : Int32) : gm_ m 32 a = f_X7_erases m 32 a := (if_pos (by decide)).trans (if_pos (by decide))
theorem gm_33 (m : ob_S) (a : Int32) : gm_ m 33 a = f_X7_erases m 33 a := (if_pos (by decide)).trans (if_pos (by decide))
theorem gm_38 (m : ob_S) (a : Int32) : gm_ m 38 a = f_X7_erases m 38 a := (if_pos (by decide)).trans (if_pos (by decide))
theorem gm_42 (m : ob_S) (a : Int32) : gm_ m 42 a = f_X7_erases m 42 a := (if_pos (by decide)).trans (if_pos (by decide))
theorem sf_17 (m : ob_S) (a : Int32) : f_X7_streams m 17 a = f_X7_streamsFrom m 17 a := (if_neg (by decide)).trans ((if_neg (by decide)).trans ((if_neg (by decide)).trans (pe_ _)))
theorem sf_18 (m : ob_S) (a : Int32) : f_X7_streams m 18 a = f_X7_streamsFrom m 18 a := (if_neg (by decide)).trans ((if_neg (by decide)).trans ((if_neg (by decide)).trans (pe_ _)))
theorem sf_24 (m : ob_S) (a : Int32) : f_X7_streams m 24 a = f_X7_streamsFrom m 24 a := (if_neg (by decide)).trans ((if_neg (by decide)).trans ((if_neg (by decide)).trans (pe_ _)))
theorem sf_25 (m : ob_S) (a : Int32) : f_X7_streams m 25 a = f_X7_streamsFrom m 25 a := (if_neg (by decide)).trans ((if_neg (by decide)).trans ((if_neg (by decide)).trans (pe_ _)))
theorem T_obey {c : cd_S} {m : ob_S} (h : rA_ c m) (on : ¬ m.1 15 = 0) {x a : Int32} (hx : f_X6_isOutside x 0 63 = 0) (ha : f_X6_isOutside a 0 65535 = 0) (h1 : ¬ f_X7_isOne m x = 0) (b0 : x = 42 → m.1 32 = 0) : eq_ (f_X6_obey c x a) (gm_ m x a) := by
  rcases cmds_of h hx h1 with q | q | q | q | q | q | q | q
  · subst q
    rw [ob_0, gm_0]; exact C_0 h on a
  · obtain ⟨rfl, s⟩ := q
    rw [ob_1, gm_1]; exact C_1 h on s a
  · obtain ⟨rfl, s⟩ := q
    rw [ob_2, gm_2]; exact C_2 h on s a
  · obtain ⟨rfl, s⟩ := q
    rw [ob_3, gm_3]; exact C_3 h on s a
  · obtain ⟨rfl, s⟩ := q
    rw [ob_7, gm_7]; exact C_7 h on s a
  · obtain ⟨rfl, s⟩ := q
    rw [ob_12, gm_12]; exact C_12 h on s a
  · subst q
    rw [ob_13, gm_13]; exact C_13 h on a
  · obtain ⟨s, q⟩ := q
    rcases q with q | q | q | q | q | q | q | q | q | q | q | q
    · subst q
      rw [ob_6, gm_6]; exact C_6 h ha
    · subst q
      rw [ob_17, gm_17]; rw [sf_17]; exact C_str h on s ha 17 5 1 (by decide) (Or.inl rfl) (by decide) (Or.inr rfl)
    · subst q
      rw [ob_18, gm_18]; rw [sf_18]; exact C_str h on s ha 18 5 0 (by decide) (Or.inl rfl) (by decide) (Or.inl rfl)
    · subst q
      rw [ob_21, gm_21]; exact C_21 h ha
    · subst q
      rw [ob_22, gm_22]; exact C_22 h a
    · subst q
      rw [ob_23, gm_23]; exact C_23 h ha
    · subst q
      rw [ob_24, gm_24]; rw [sf_24]; exact C_str h on s ha 24 6 1 (by decide) (Or.inr rfl) (by decide) (Or.inr rfl)
    · subst q
      rw [ob_25, gm_25]; rw [sf_25]; exact C_str h on s ha 25 6 0 (by decide) (Or.inr rfl) (by decide) (Or.inl rfl)
    · subst q
      rw [ob_32, gm_32]; exact C_32 h ha
    · subst q
      rw [ob_33, gm_33]; exact C_33 h ha
    · subst q
      rw [ob_38, gm_38]; exact C_38 h on a
    · subst q
      rw [ob_42, gm_42]; exact C_42 h on (b0 rfl) a
/-- what breaks an erasure off -/
theorem bo_of {c : cd_S} {m : ob_S} (h : rA_ c m) (x a : Int32) : (f_X0_isBrokenOffBy (c 5) x = 0 ∧ ms_ m x a = gm_ m x a ∧ (x = 42 → m.1 32 = 0)) ∨ (¬ f_X0_isBrokenOffBy (c 5) x = 0 ∧ ms_ m x a = gm_ (bk_ m) x a) := by
  have e0 : (c 5).1 0 = m.1 32 := h.2.2.2.2.1.1
  have b : m.1 32 = 0 ∨ m.1 32 = 1 ∨ m.1 32 = 2 := by
    rcases h.2.2.2.2.1.2.1 with z | z | z
    · exact Or.inl z
    · exact Or.inr (Or.inl z.1)
    · exact Or.inr (Or.inr z.1)
  rcases b with b | b | b
  · left
    exact ⟨if_pos (e0.trans b), if_pos (by rw [b]; decide), fun _ => b⟩
  · have n0 : ¬ (c 5).1 0 = 0 := by rw [e0, b]; decide
    have p1 : (c 5).1 0 = 1 := e0.trans b
    have nl : ¬ m.1 32 ≤ 0 := by rw [b]; decide
    have n2 : ¬ m.1 32 = 2 := by rw [b]; decide
    by_cases x13 : x = 13
    · left
      exact ⟨(if_neg n0).trans (if_pos x13), (if_neg nl).trans (if_pos x13), fun z => by rw [x13] at z; exact absurd z (by decide)⟩
    · by_cases x33 : x = 33
      · left
        refine ⟨(if_neg n0).trans ((if_neg x13).trans ?_), (if_neg nl).trans ((if_neg x13).trans ((if_pos x33).trans (if_pos b))), fun z => by rw [x33] at z; exact absurd z (by decide)⟩
        show (if (if (c 5).1 0 = 1 then (if x = 33 then (1 : Int32) else 0) else (if x = 38 then 1 else 0)) = 0 then (1 : Int32) else 0) = 0
        rw [if_pos p1, if_pos x33]; rfl
      · right
        refine ⟨?_, ?_⟩
        · have e : f_X0_isBrokenOffBy (c 5) x = 1 := by
            refine (if_neg n0).trans ((if_neg x13).trans ?_)
            show (if (if (c 5).1 0 = 1 then (if x = 33 then (1 : Int32) else 0) else (if x = 38 then 1 else 0)) = 0 then (1 : Int32) else 0) = 1
            rw [if_pos p1, if_neg x33]; rfl
          rw [e]; decide
        · refine (if_neg nl).trans ((if_neg x13).trans ((if_neg x33).trans ?_))
          by_cases x38 : x = 38
          · exact (if_pos x38).trans (if_neg n2)
          · exact if_neg x38
  · have n0 : ¬ (c 5).1 0 = 0 := by rw [e0, b]; decide
    have p1 : ¬ (c 5).1 0 = 1 := by rw [e0, b]; decide
    have nl : ¬ m.1 32 ≤ 0 := by rw [b]; decide
    have n1 : ¬ m.1 32 = 1 := by rw [b]; decide
    by_cases x13 : x = 13
    · left
      exact ⟨(if_neg n0).trans (if_pos x13), (if_neg nl).trans (if_pos x13), fun z => by rw [x13] at z; exact absurd z (by decide)⟩
    · by_cases x38 : x = 38
      · left
        have x33 : ¬ x = 33 := by rw [x38]; decide
        refine ⟨(if_neg n0).trans ((if_neg x13).trans ?_), (if_neg nl).trans ((if_neg x13).trans ((if_neg x33).trans ((if_pos x38).trans (if_pos b)))), fun z => by rw [x38] at z; exact absurd z (by decide)⟩
        show (if (if (c 5).1 0 = 1 then (if x = 33 then (1 : Int32) else 0) else (if x = 38 then 1 else 0)) = 0 then (1 : Int32) else 0) = 0
        rw [if_neg p1, if_pos x38]; rfl
      · right
        refine ⟨?_, ?_⟩
        · have e : f_X0_isBrokenOffBy (c 5) x = 1 := by
            refine (if_neg n0).trans ((if_neg x13).trans ?_)
            show (if (if (c 5).1 0 = 1 then (if x = 33 then (1 : Int32) else 0) else (if x = 38 then 1 else 0)) = 0 then (1 : Int32) else 0) = 1
            rw [if_neg p1, if_neg x38]; rfl
          rw [e]; decide
        · refine (if_neg nl).trans ((if_neg x13).trans ?_)
          by_cases x33 : x = 33
          · exact (if_pos x33).trans ((if_neg n1).trans (if_neg x38))
          · exact (if_neg x33).trans (if_neg x38)
theorem chk_of (m : ob_S) {x a : Int32} (hx : f_X6_isOutside x 0 63 = 0) (ha : f_X6_isOutside a 0 65535 = 0) : f_X7_check m x a = f_X6_commandCheck x a := by
  refine ((if_neg (in_yes (by decide) (by decide) hx)).trans (if_neg (in_yes (by decide) (by decide) ha))).trans ?_
  exact (ck_eq _ _).symm
theorem cs_no {c : cd_S} {x a z : Int32} {v : cd_S} (e : f_X6_hears c x a z = (0, v)) : cs_ c x a z = (-4, v) := by
  unfold cs_
  rw [e]; rfl
theorem cs_yes {c : cd_S} {x a z : Int32} {v : cd_S} (e : f_X6_hears c x a z = (1, v)) : cs_ c x a z = f_X6_obey v x a := by
  unfold cs_
  rw [e]
  exact if_neg (show ¬ (1 : Int32) = 0 by decide)
theorem T_cmd {c : cd_S} {m : ob_S} (h : rA_ c m) {x a : Int32} (hx : f_X6_isOutside x 0 63 = 0) (ha : f_X6_isOutside a 0 65535 = 0) (z : Int32) : eq_ (cs_ c x a z) (sm_ m x a z) := by
  have pw := pw_eq h
  by_cases on : m.1 15 = 0
  · have e1 : f_X6_hears c x a z = (0, c) := if_pos (pw.trans on)
    have e2 : sm_ m x a z = (-4, m) := if_pos on
    rw [cs_no e1, e2]; exact ⟨rfl, h⟩
  have pn : ¬ f_X6_isPowered c = 0 := by rw [pw]; exact on
  by_cases k : z = f_X6_commandCheck x a
  rotate_left
  · have e1 : f_X6_hears c x a z = (0, f_X6_note c 1) := (if_neg pn).trans (if_neg k)
    have e2 : sm_ m x a z = (-4, ob_i m 22 (m.1 22 ||| 1)) := (if_neg on).trans (if_neg (by rw [chk_of m hx ha]; exact k))
    rw [cs_no e1, e2]; exact ⟨rfl, rA_note h 1⟩
  have k2 : z = f_X7_check m x a := by rw [chk_of m hx ha]; exact k
  have op := open_of h on hx
  have no2 : f_X6_isOpenTo c x = 0 → sm_ m x a z = (-4, ob_i m 22 (m.1 22 ||| 2)) → eq_ (cs_ c x a z) (sm_ m x a z) := by
    intro o e2
    have e1 : f_X6_hears c x a z = (0, f_X6_note c 2) := (if_neg pn).trans ((if_pos k).trans (if_pos o))
    rw [cs_no e1, e2]; exact ⟨rfl, rA_note h 2⟩
  by_cases o1 : f_X7_isOne m x = 0
  · exact no2 (op.trans (if_pos o1)) ((if_neg on).trans ((if_pos k2).trans (if_pos o1)))
  have yes : f_X6_isOpenTo c x = 1 → sm_ m x a z = ms_ m x a → eq_ (cs_ c x a z) (sm_ m x a z) := by
    intro o e2
    have o' : ¬ f_X6_isOpenTo c x = 0 := by rw [o]; decide
    rw [e2]
    rcases bo_of h x a with q | q
    · have e1 : f_X6_hears c x a z = (1, c) := (if_neg pn).trans ((if_pos k).trans ((if_neg o').trans (if_pos q.1)))
      rw [cs_yes e1, q.2.1]
      exact T_obey h on hx ha o1 q.2.2
    · have e1 : f_X6_hears c x a z = (1, f_X6_note (va_up c 5 (f_X0_forget (c 5))) 8) := (if_neg pn).trans ((if_pos k).trans ((if_neg o').trans (if_neg q.1)))
      rw [cs_yes e1, q.2]
      have h3 : rA_ (f_X6_note (va_up c 5 (f_X0_forget (c 5))) 8) (bk_ m) := rA_note (rA_fgt h) 8
      exact T_obey h3 on hx ha o1 (fun _ => rfl)
  by_cases l0 : m.1 21 = 0
  · exact yes (op.trans ((if_neg o1).trans (if_pos l0))) ((if_neg on).trans ((if_pos k2).trans ((if_neg o1).trans (if_pos l0))))
  · by_cases st : f_X7_isStarred x = 0
    · exact yes (op.trans ((if_neg o1).trans ((if_neg l0).trans (if_pos st)))) ((if_neg on).trans ((if_pos k2).trans ((if_neg o1).trans ((if_neg l0).trans (if_pos st)))))
    · exact no2 (op.trans ((if_neg o1).trans ((if_neg l0).trans (if_neg st)))) ((if_neg on).trans ((if_pos k2).trans ((if_neg o1).trans ((if_neg l0).trans (if_neg st)))))
theorem T_send {c : cd_S} {m : ob_S} (h : rA_ c m) (x a z : Int32) : eq_ (f_X6_send c x a z) (f_X7_send m x a z) := by
  by_cases hx : f_X6_isOutside x 0 63 = 0
  rotate_left
  · have e1 : f_X6_send c x a z = (-1, c) := if_neg (fun q => hx ((nc_eq x a).mp q).1)
    have e2 : f_X7_send m x a z = (-1, m) := if_pos (in_no (by decide) (by decide) hx)
    rw [e1, e2]; exact ⟨rfl, h⟩
  have x2 := in_yes (A := 0) (B := 63) (by decide) (by decide) hx
  by_cases ha : f_X6_isOutside a 0 65535 = 0
  rotate_left
  · have e1 : f_X6_send c x a z = (-1, c) := if_neg (fun q => ha ((nc_eq x a).mp q).2)
    have e2 : f_X7_send m x a z = (-1, m) := (if_neg x2).trans (if_pos (in_no (by decide) (by decide) ha))
    rw [e1, e2]; exact ⟨rfl, h⟩
  have a2 := in_yes (A := 0) (B := 65535) (by decide) (by decide) ha
  by_cases hz : f_X6_isOutside z 0 127 = 0
  rotate_left
  · have e1 : f_X6_send c x a z = (-1, c) := (if_pos ((nc_eq x a).mpr ⟨hx, ha⟩)).trans (if_neg hz)
    have e2 : f_X7_send m x a z = (-1, m) := (if_neg x2).trans ((if_neg a2).trans (if_pos (in_no (by decide) (by decide) hz)))
    rw [e1, e2]; exact ⟨rfl, h⟩
  have z2 := in_yes (A := 0) (B := 127) (by decide) (by decide) hz
  have e1 : f_X6_send c x a z = cs_ c x a z := (if_pos ((nc_eq x a).mpr ⟨hx, ha⟩)).trans (if_pos hz)
  rw [e1, send_sm m x a z x2 a2 z2]
  exact T_cmd h hx ha z
/-! the check is a number of 0 .. 127 -/
def c1_ (v b : Int32) : Int32 := ((v <<< ((1 : Int32) &&& 31)) &&& 127) ^^^ (9 * (b ^^^ (v >>> ((6 : Int32) &&& 31))))
theorem c1_tab : ∀ i : Fin 128, ∀ j : Fin 2, ∀ _k : Fin 1, 0 ≤ (c1_ (nI i) (nI j)).toInt ∧ (c1_ (nI i) (nI j)).toInt < 128 := by decide +kernel
theorem and1_rng (x : Int32) : 0 ≤ (x &&& 1).toInt ∧ (x &&& 1).toInt < (2 : Nat) := by
  have e : x &&& 1 = 0 ∨ x &&& 1 = 1 := by
    have h : ∀ v : BitVec 32, v &&& 1#32 = 0#32 ∨ v &&& 1#32 = 1#32 := by
      intro v
      have h2 : (v &&& 1#32).toNat = v.toNat % 2 := by
        rw [BitVec.toNat_and]
        exact Nat.and_one_is_mod _
      rcases Nat.mod_two_eq_zero_or_one v.toNat with z | z
      · left
        apply BitVec.eq_of_toNat_eq
        rw [h2, z]; rfl
      · right
        apply BitVec.eq_of_toNat_eq
        rw [h2, z]; rfl
    rcases h x.toBitVec with z | z
    · left
      exact Int32.toBitVec_inj.mp z
    · right
      exact Int32.toBitVec_inj.mp z
  rcases e with e | e <;> rw [e] <;> decide
theorem ck_rng (b : Int32) : ∀ (n : Nat) (v i : Int32), 0 ≤ v.toInt ∧ v.toInt < (128 : Nat) → 0 ≤ (k_X7_checked_6 b n v i).toInt ∧ (k_X7_checked_6 b n v i).toInt < 128 := by
  intro n
  induction n with
  | zero => intro v i _; exact ⟨by show 0 ≤ (0 : Int32).toInt; decide, by show (0 : Int32).toInt < 128; decide⟩
  | succ n ih =>
    intro v i hv
    by_cases k : i < 0
    · have e : k_X7_checked_6 b (n + 1) v i = v := if_pos k
      rw [e]; exact ⟨hv.1, by have := hv.2; omega⟩
    · have e : k_X7_checked_6 b (n + 1) v i = k_X7_checked_6 b n (c1_ v ((b >>> (i &&& 31)) &&& 1)) (i + (-1)) := if_neg k
      rw [e]
      have t := tab3 (P := fun v b _ => 0 ≤ (c1_ v b).toInt ∧ (c1_ v b).toInt < 128) c1_tab hv (and1_rng (b >>> (i &&& 31))) (z := 0) (by decide)
      exact ih _ _ ⟨t.1, by have := t.2; omega⟩
theorem chk_in (m : ob_S) {x a : Int32} (hx : f_X6_isOutside x 0 63 = 0) (ha : f_X6_isOutside a 0 65535 = 0) : ¬ f_X7_in (Int32.toInt64 (f_X7_check m x a)) 0 127 = 0 := by
  have e : f_X7_check m x a = f_X7_checked (65536 * x + a) 22 := (if_neg (in_yes (by decide) (by decide) hx)).trans (if_neg (in_yes (by decide) (by decide) ha))
  rw [e]
  have r := ck_rng (65536 * x + a) 23 0 (22 - 1) (by decide)
  refine in_yes (a := 0) (b := 127) (by decide) (by decide) ?_
  have r2 : 0 ≤ (f_X7_checked (65536 * x + a) 22).toInt ∧ (f_X7_checked (65536 * x + a) 22).toInt < 128 := r
  have e7 : (127 : Int32).toInt = 127 := by decide
  have n1 : ¬ f_X7_checked (65536 * x + a) 22 < 0 := by rw [Int32.lt_iff_toInt_lt, z_t]; omega
  have n2 : f_X7_checked (65536 * x + a) 22 ≤ 127 := by rw [Int32.le_iff_toInt_le, e7]; omega
  exact (if_neg n1).trans (if_pos n2)
theorem tell_sm {m : ob_S} {x a : Int32} (hx : f_X6_isOutside x 0 63 = 0) (ha : f_X6_isOutside a 0 65535 = 0) : f_X7_tell m x a = sm_ m x a (f_X6_commandCheck x a) := by
  have x2 := in_yes (A := 0) (B := 63) (by decide) (by decide) hx
  have a2 := in_yes (A := 0) (B := 65535) (by decide) (by decide) ha
  have e : f_X7_tell m x a = f_X7_send m x a (f_X7_check m x a) := (if_neg x2).trans (if_neg a2)
  rw [e, send_sm m x a _ x2 a2 (chk_in m hx ha), chk_of m hx ha]
theorem T_tell {c : cd_S} {m : ob_S} (h : rA_ c m) (x a : Int32) : eq_ (f_X6_tell c x a) (f_X7_tell m x a) := by
  by_cases hx : f_X6_isOutside x 0 63 = 0
  rotate_left
  · have e1 : f_X6_tell c x a = (-1, c) := if_neg (fun q => hx ((nc_eq x a).mp q).1)
    have e2 : f_X7_tell m x a = (-1, m) := if_pos (in_no (by decide) (by decide) hx)
    rw [e1, e2]; exact ⟨rfl, h⟩
  have x2 := in_yes (A := 0) (B := 63) (by decide) (by decide) hx
  by_cases ha : f_X6_isOutside a 0 65535 = 0
  rotate_left
  · have e1 : f_X6_tell c x a = (-1, c) := if_neg (fun q => ha ((nc_eq x a).mp q).2)
    have e2 : f_X7_tell m x a = (-1, m) := (if_neg x2).trans (if_pos (in_no (by decide) (by decide) ha))
    rw [e1, e2]; exact ⟨rfl, h⟩
  have e1 : f_X6_tell c x a = cs_ c x a (f_X6_commandCheck x a) := if_pos ((nc_eq x a).mpr ⟨hx, ha⟩)
  rw [e1, tell_sm hx ha]
  exact T_cmd h hx ha _
