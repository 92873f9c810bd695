/-! tune -/
theorem rl_of (x f : Int32) : ∀ (n i : Nat), 16 < n + i → i ≤ 16 → ∃ r : Nat, r ≤ 16 ∧ k_X6_rowLength_2 x f n (nI i) = nI r ∧ k_X7_tune_63 x f n (nI i) = nI r := by
  intro n
  induction n with
  | zero => intro i h1 h2; omega
  | succ n ih =>
    intro i h1 h2
    by_cases k : (16 : Int32) ≤ nI i
    · exact ⟨i, h2, if_pos k, if_pos k⟩
    · have k2 : ¬ 16 ≤ i := fun z => k ((nI_leI (a := 16) (by decide) (by omega)).mpr z)
      by_cases d : ((x >>> (((f + nI i) - (f + nI i) / 16 * 16) &&& 31)) &&& 1) = 1
      · obtain ⟨r, r1, r2, r3⟩ := ih (i + 1) (by omega) (by omega)
        exact ⟨r, r1, (if_neg k).trans ((if_pos d).trans (by rw [nI_s]; exact r2)), (if_neg k).trans ((if_pos d).trans (by rw [nI_s]; exact r3))⟩
      · exact ⟨i, h2, (if_neg k).trans (if_neg d), (if_neg k).trans (if_neg d)⟩
theorem hf_of (q : Nat) (hq : q ≤ 16) : (nI q - 1) / 2 = nI ((q - 1) / 2) := by
  rcases Nat.eq_zero_or_pos q with z | z
  · subst z; decide
  · obtain ⟨q', rfl⟩ : ∃ q', q = q' + 1 := ⟨q - 1, by omega⟩
    rw [nI_p, Nat.add_sub_cancel]
    exact pk_div (d := 2) (by omega) (by decide) (by decide)
theorem md_of (x : Int32) : ∀ (n k p q : Nat), 16 < n + k → k ≤ 16 → p ≤ 15 → q ≤ 16 → ∃ r : Nat, r ≤ 15 ∧ k_X6_middleOfLongestRow_6 x n (nI p) (nI q) (nI k) = nI r ∧ ∀ u, k_X7_tune_53 x n (nI p) (nI q) (nI k) u = (nI r, (f_X7_tell u 21 (nI r)).2) := by
  intro n
  induction n with
  | zero => intro k p q h1 h2; omega
  | succ n ih =>
    intro k p q h1 h2 hp hq
    by_cases c : (16 : Int32) ≤ nI k
    · have e : (nI p + (nI q - 1) / 2) - (nI p + (nI q - 1) / 2) / 16 * 16 = nI ((p + (q - 1) / 2) % 16) := by
        rw [hf_of q hq, nI_add]
        exact pk_rem (d := 16) (by omega) (by decide) (by decide)
      have hm : (p + (q - 1) / 2) % 16 < 16 := Nat.mod_lt _ (by decide)
      refine ⟨(p + (q - 1) / 2) % 16, by omega, (if_pos c).trans e, fun u => ?_⟩
      refine (if_pos c).trans ?_
      show ((nI p + (nI q - 1) / 2) - (nI p + (nI q - 1) / 2) / 16 * 16, (f_X7_tell u 21 ((nI p + (nI q - 1) / 2) - (nI p + (nI q - 1) / 2) / 16 * 16)).2) = _
      rw [e]
    · have c2 : ¬ 16 ≤ k := fun z => c ((nI_leI (a := 16) (by decide) (by omega)).mpr z)
      obtain ⟨r, r1, r2, r3⟩ := rl_of x (nI k) 17 0 (by omega) (by omega)
      have r2' : f_X6_rowLength x (nI k) = nI r := r2
      have r3' : k_X7_tune_63 x (nI k) 17 0 = nI r := r3
      by_cases d : nI r ≤ nI q
      · obtain ⟨s, s1, s2, s3⟩ := ih (k + 1) p q (by omega) (by omega) hp hq
        refine ⟨s, s1, (if_neg c).trans ((if_pos (by rw [r2']; exact d)).trans (by rw [nI_s]; exact s2)), fun u => (if_neg c).trans ?_⟩
        show k_X7_tune_53 x n (if k_X7_tune_63 x (nI k) 17 0 ≤ nI q then nI p else nI k) (if k_X7_tune_63 x (nI k) 17 0 ≤ nI q then nI q else k_X7_tune_63 x (nI k) 17 0) (nI k + 1) u = _
        rw [r3', if_pos d, if_pos d, nI_s]; exact s3 u
      · obtain ⟨s, s1, s2, s3⟩ := ih (k + 1) k r (by omega) (by omega) (by omega) r1
        refine ⟨s, s1, (if_neg c).trans ((if_neg (by rw [r2']; exact d)).trans (by rw [nI_s, r2']; exact s2)), fun u => (if_neg c).trans ?_⟩
        show k_X7_tune_53 x n (if k_X7_tune_63 x (nI k) 17 0 ≤ nI q then nI p else nI k) (if k_X7_tune_63 x (nI k) 17 0 ≤ nI q then nI q else k_X7_tune_63 x (nI k) 17 0) (nI k + 1) u = _
        rw [r3', if_neg d, if_neg d, nI_s]; exact s3 u
theorem os_nI {k b : Nat} (hk : k ≤ b) (hb : b < 2 ^ 31) : f_X6_isOutside (nI k) 0 (nI b) = 0 := by
  have n1 : ¬ nI k < 0 := nI_pos (by omega)
  have n2 : nI k ≤ nI b := (nI_leI (by omega) (by omega)).mpr hk
  exact (if_neg n1).trans (if_pos n2)
theorem hr_01 (c : cd_S) (x a z : Int32) : (f_X6_hears c x a z).1 = 0 ∨ (f_X6_hears c x a z).1 = 1 := by
  unfold f_X6_hears
  dsimp only
  repeat' split
  all_goals first | exact Or.inl rfl | exact Or.inr rfl
theorem mp_01 (c : cd_S) (a : Int32) : ¬ (f_X6_obey c 21 a).1 = -4 := by
  have e : f_X6_obey c 21 a = f_X6_movePoint c a := rfl
  rw [e]
  show ¬ f_X6_asNumber _ = -4
  unfold f_X6_asNumber
  split <;> decide
theorem tu_loop : ∀ (n k : Nat) (x : Int32) (c : cd_S) (m : ob_S), rA_ c m → 16 < n + k → k ≤ 16 → eq_ (k_X6_tune_4 n x (nI k) c) (k_X7_tune_4 n x (nI k) m) := by
  intro n
  induction n with
  | zero => intro k x c m h h1 h2; omega
  | succ n ih =>
    intro k x c m h h1 h2
    have h21 : f_X6_isOutside 21 0 63 = 0 := by decide
    by_cases a : (16 : Int32) ≤ nI k
    · by_cases b : x = 0
      · have e1 : k_X6_tune_4 (n + 1) x (nI k) c = (-2, c) := (if_pos a).trans (if_pos b)
        have e2 : k_X7_tune_4 (n + 1) x (nI k) m = (-2, m) := (if_pos a).trans (if_pos b)
        rw [e1, e2]; exact ⟨rfl, h⟩
      · obtain ⟨r, r1, r2, r3⟩ := md_of x 17 0 0 0 (by omega) (by omega) (by omega) (by omega)
        have r2' : f_X6_middleOfLongestRow x = nI r := r2
        have e2 : k_X7_tune_4 (n + 1) x (nI k) m = (nI r, (f_X7_tell m 21 (nI r)).2) := (if_pos a).trans ((if_neg b).trans (r3 m))
        have ha : f_X6_isOutside (nI r) 0 65535 = 0 := os_nI (b := 65535) (by omega) (by decide)
        have e1 : k_X6_tune_4 (n + 1) x (nI k) c = (nI r, (cs_ c 21 (nI r) (f_X6_commandCheck 21 (nI r))).2) := by
          refine (if_pos a).trans ((if_neg b).trans ?_)
          show (if (f_X6_hears c 21 (f_X6_middleOfLongestRow x) (f_X6_commandCheck 21 (f_X6_middleOfLongestRow x))).1 = 0 then (f_X6_middleOfLongestRow x, (f_X6_hears c 21 (f_X6_middleOfLongestRow x) (f_X6_commandCheck 21 (f_X6_middleOfLongestRow x))).2) else (f_X6_middleOfLongestRow x, (f_X6_obey (f_X6_hears c 21 (f_X6_middleOfLongestRow x) (f_X6_commandCheck 21 (f_X6_middleOfLongestRow x))).2 21 (f_X6_middleOfLongestRow x)).2)) = _
          rw [r2']
          unfold cs_
          split <;> rfl
        rw [e1, e2, tell_sm h21 ha]
        exact ⟨rfl, (T_cmd h h21 ha _).2⟩
    · have k2 : ¬ 16 ≤ k := fun z => a ((nI_leI (a := 16) (by decide) (by omega)).mpr z)
      have ha : f_X6_isOutside (nI k) 0 65535 = 0 := os_nI (b := 65535) (by omega) (by decide)
      have t := T_cmd h h21 ha (f_X6_commandCheck 21 (nI k))
      have e2 : k_X7_tune_4 (n + 1) x (nI k) m = (if (f_X7_tell m 21 (nI k)).1 = -4 then (-4, (f_X7_tell m 21 (nI k)).2) else k_X7_tune_4 n (x ||| ((f_X7_tell m 21 (nI k)).1 <<< (nI k &&& 31))) (nI k + 1) (f_X7_tell m 21 (nI k)).2) := if_neg a
      have e1 : k_X6_tune_4 (n + 1) x (nI k) c = (if (f_X6_hears c 21 (nI k) (f_X6_commandCheck 21 (nI k))).1 = 0 then (-4, (f_X6_hears c 21 (nI k) (f_X6_commandCheck 21 (nI k))).2) else k_X6_tune_4 n (x ||| ((f_X6_obey (f_X6_hears c 21 (nI k) (f_X6_commandCheck 21 (nI k))).2 21 (nI k)).1 <<< (nI k &&& 31))) (nI k + 1) (f_X6_obey (f_X6_hears c 21 (nI k) (f_X6_commandCheck 21 (nI k))).2 21 (nI k)).2) := if_neg a
      rw [e1, e2, tell_sm h21 ha]
      by_cases z : (f_X6_hears c 21 (nI k) (f_X6_commandCheck 21 (nI k))).1 = 0
      · have ec : cs_ c 21 (nI k) (f_X6_commandCheck 21 (nI k)) = (-4, (f_X6_hears c 21 (nI k) (f_X6_commandCheck 21 (nI k))).2) := if_pos z
        rw [ec] at t
        have t1 : (sm_ m 21 (nI k) (f_X6_commandCheck 21 (nI k))).1 = -4 := t.1.symm
        rw [if_pos z, if_pos t1]
        exact ⟨rfl, t.2⟩
      · have ec : cs_ c 21 (nI k) (f_X6_commandCheck 21 (nI k)) = f_X6_obey (f_X6_hears c 21 (nI k) (f_X6_commandCheck 21 (nI k))).2 21 (nI k) := if_neg z
        rw [ec] at t
        have n4 := mp_01 (f_X6_hears c 21 (nI k) (f_X6_commandCheck 21 (nI k))).2 (nI k)
        have t1 : ¬ (sm_ m 21 (nI k) (f_X6_commandCheck 21 (nI k))).1 = -4 := by rw [← t.1]; exact n4
        rw [if_neg z, if_neg t1, ← t.1, nI_s]
        exact ih (k + 1) _ _ _ t.2 (by omega) (by omega)
theorem T_tune {c : cd_S} {m : ob_S} (h : rA_ c m) : eq_ (f_X6_tune c) (f_X7_tune m) := tu_loop 17 0 0 c m h (by omega) (by omega)
