/-! the text and the word -/
theorem oN_nI (n : Nat) : Int32.ofNat n = nI n := rfl
theorem at_nI {N : Nat} {c : ob_S} {q i : Nat} (hN : N < 2 ^ 31) (hc : c.1 1 = nI q) (hq : q ≤ N) (hi : i < q) : f_X1_at N c (nI i) = c.2 0 i := by
  have h1 : ¬ nI i < 0 := nI_pos (by omega)
  have h2 : ¬ c.1 1 ≤ nI i := by rw [hc, nl_t (by omega) (by omega)]; omega
  have h3 : ¬ Int32.ofNat N ≤ nI i := by rw [oN_nI, nl_t hN (by omega)]; omega
  exact (if_neg h1).trans ((if_neg h2).trans ((if_neg h3).trans (by rw [tn_nI (by omega)])))
theorem sw_loop {t s : ob_S} {p q : Nat} (ht : t.1 1 = nI q) (hs : s.1 1 = nI p) (hq : q ≤ 200) (hp : p ≤ 8) (hpq : p ≤ q) : ∀ (n i : Nat), p < n + i → i ≤ p →
    (k_X1_startsWith_15 200 8 t s n (nI i) = 1 ∧ ∀ j, i ≤ j → j < p → t.2 0 j = s.2 0 j) ∨ (k_X1_startsWith_15 200 8 t s n (nI i) = 0 ∧ ¬ ∀ j, i ≤ j → j < p → t.2 0 j = s.2 0 j) := by
  intro n
  induction n with
  | zero => intro i h1 h2; omega
  | succ n ih =>
    intro i h1 h2
    by_cases c : s.1 1 ≤ nI i
    · have e : k_X1_startsWith_15 200 8 t s (n + 1) (nI i) = 1 := if_pos c
      rw [hs, nl_t (by omega) (by omega)] at c
      exact Or.inl ⟨e, fun j hj hk => by omega⟩
    · have ck := c
      rw [hs, nl_t (by omega) (by omega)] at ck
      have e1 : f_X1_at 200 t (nI i) = t.2 0 i := at_nI (by decide) ht hq (by omega)
      have e2 : f_X1_at 8 s (nI i) = s.2 0 i := at_nI (by decide) hs hp (by omega)
      by_cases d : f_X1_at 200 t (nI i) = f_X1_at 8 s (nI i)
      · have e : k_X1_startsWith_15 200 8 t s (n + 1) (nI i) = k_X1_startsWith_15 200 8 t s n (nI (i + 1)) := (if_neg c).trans ((if_pos d).trans (by rw [nI_s]))
        rw [e]
        rw [e1, e2] at d
        rcases ih (i + 1) (by omega) (by omega) with ⟨g1, g2⟩ | ⟨g1, g2⟩
        · refine Or.inl ⟨g1, fun j hj hk => ?_⟩
          by_cases z : j = i
          · subst z; exact d
          · exact g2 j (by omega) hk
        · exact Or.inr ⟨g1, fun h => g2 (fun j hj hk => h j (by omega) hk)⟩
      · have e : k_X1_startsWith_15 200 8 t s (n + 1) (nI i) = 0 := (if_neg c).trans (if_neg d)
        rw [e1, e2] at d
        exact Or.inr ⟨e, fun h => d (h i (Nat.le_refl i) (by omega))⟩
theorem iw_loop {m : ob_S} {p : Nat} (hm : m.1 11 = nI p) (hp : p ≤ 8) : ∀ (n i : Nat), p < n + i → i ≤ p →
    (k_X7_isWord_21 m n 1 (nI i) = 1 ∧ ∀ j, i ≤ j → j < p → m.2 1 j = m.2 12 j) ∨ (k_X7_isWord_21 m n 1 (nI i) = 0 ∧ ¬ ∀ j, i ≤ j → j < p → m.2 1 j = m.2 12 j) := by
  intro n
  induction n with
  | zero => intro i h1 h2; omega
  | succ n ih =>
    intro i h1 h2
    by_cases c : m.1 11 ≤ nI i
    · have e : k_X7_isWord_21 m (n + 1) 1 (nI i) = 1 := if_pos c
      rw [hm, nl_t (by omega) (by omega)] at c
      exact Or.inl ⟨e, fun j hj hk => by omega⟩
    · have ck := c
      rw [hm, nl_t (by omega) (by omega)] at ck
      have e0 : k_X7_isWord_21 m (n + 1) 1 (nI i) = k_X7_isWord_21 m n (if m.2 1 i = m.2 12 i then 1 else 0) (nI (i + 1)) := (if_neg c).trans ((if_neg (by decide)).trans (by rw [← nI_s, tn_nI (by omega)]))
      by_cases d : m.2 1 i = m.2 12 i
      · rw [e0, if_pos d]
        rcases ih (i + 1) (by omega) (by omega) with ⟨g1, g2⟩ | ⟨g1, g2⟩
        · refine Or.inl ⟨g1, fun j hj hk => ?_⟩
          by_cases z : j = i
          · subst z; exact d
          · exact g2 j (by omega) hk
        · exact Or.inr ⟨g1, fun h => g2 (fun j hj hk => h j (by omega) hk)⟩
      · rw [e0, if_neg d]
        exact Or.inr ⟨iw_0 m n (nI (i + 1)), fun h => d (h i (Nat.le_refl i) (by omega))⟩
/-- text and word as both sides hold them -/
def tw_ (t s m : ob_S) (p q : Nat) : Prop := t.1 1 = nI q ∧ m.1 0 = nI q ∧ s.1 1 = nI p ∧ m.1 11 = nI p ∧ q ≤ 200 ∧ p ≤ 8 ∧ pr_ (t.2 0) q = pr_ (m.2 1) q ∧ pr_ (s.2 0) p = pr_ (m.2 12) p
theorem sub_nI {p q : Nat} (hp : p < 2 ^ 30) (hq : q < 2 ^ 30) : (nI q - nI p).toInt = (q : Int) - p := pk_sub_toInt hq hp
/-- the text begins with the word: told alike, where it's long enough -/
theorem sw_iw {t s m : ob_S} {p q : Nat} (h : tw_ t s m p q) (hpq : p ≤ q) : f_X1_startsWith 200 8 t s = k_X7_isWord_21 m 9 1 0 := by
  obtain ⟨h1, h2, h3, h4, h5, h6, h7, h8⟩ := h
  have e : f_X1_startsWith 200 8 t s = k_X1_startsWith_15 200 8 t s 201 (nI 0) := if_pos (by rw [h1, h3, nl_t (by omega) (by omega)]; exact hpq)
  rw [e]
  have key : (∀ j, 0 ≤ j → j < p → t.2 0 j = s.2 0 j) ↔ (∀ j, 0 ≤ j → j < p → m.2 1 j = m.2 12 j) := by
    constructor
    · intro g j h0 hj
      rw [← pr_at h7 (show j < q by omega), ← pr_at h8 hj]
      exact g j h0 hj
    · intro g j h0 hj
      rw [pr_at h7 (show j < q by omega), pr_at h8 hj]
      exact g j h0 hj
  rcases sw_loop h1 h3 h5 h6 hpq 201 0 (by omega) (by omega) with ⟨a1, a2⟩ | ⟨a1, a2⟩ <;> rcases iw_loop h4 h6 9 0 (by omega) (by omega) with ⟨b1, b2⟩ | ⟨b1, b2⟩
  · rw [a1]; exact b1.symm
  · exact absurd (key.mp a2) b2
  · exact absurd (key.mpr b2) a2
  · rw [a1]; exact b1.symm
theorem iw_eq (m : ob_S) (a b : Int32) (h : ¬ f_X7_in (Int32.toInt64 (m.1 0 - m.1 11)) (Int32.toInt64 a) (Int32.toInt64 b) = 0) : f_X7_isWord m a b = k_X7_isWord_21 m 9 1 0 := by
  have e : f_X7_in (Int32.toInt64 (m.1 0 - m.1 11)) (Int32.toInt64 a) (Int32.toInt64 b) = 1 := (bz_X7_in _ _ _).resolve_left h
  show k_X7_isWord_21 m 9 (f_X7_in (Int32.toInt64 (m.1 0 - m.1 11)) (Int32.toInt64 a) (Int32.toInt64 b)) 0 = _
  rw [e]
theorem iw_no (m : ob_S) (a b : Int32) (h : f_X7_in (Int32.toInt64 (m.1 0 - m.1 11)) (Int32.toInt64 a) (Int32.toInt64 b) = 0) : f_X7_isWord m a b = 0 := by
  show k_X7_isWord_21 m 9 (f_X7_in (Int32.toInt64 (m.1 0 - m.1 11)) (Int32.toInt64 a) (Int32.toInt64 b)) 0 = _
  rw [h]
  exact iw_0 m 9 0
/-- THE TEXT is the WORD: told alike (where there is a word) -/
theorem ts_eq {c : cd_S} {m : ob_S} {p q : Nat} (h : tw_ (c 2) (c 3) m p q) (hp : 0 < p) : f_X6_textIsSecret c = f_X7_isWord m 0 0 := by
  obtain ⟨h1, h2, h3, h4, h5, h6, h7, h8⟩ := id h
  have c1 : ¬ f_X1_length 8 (c 3) ≤ 0 := by
    show ¬ (c 3).1 1 ≤ 0
    rw [h3]; exact nI_nle hp (by omega)
  by_cases d : q = p
  · subst d
    have c2 : f_X1_length 200 (c 2) = f_X1_length 8 (c 3) := by
      show (c 2).1 1 = (c 3).1 1
      rw [h1, h3]
    have e1 := sw_iw h (Nat.le_refl _)
    have hin : ¬ f_X7_in (Int32.toInt64 (m.1 0 - m.1 11)) (Int32.toInt64 0) (Int32.toInt64 0) = 0 := by
      rw [h2, h4, show nI q - nI q = 0 by apply Int32.toInt_inj.mp; rw [sub_nI (by omega) (by omega), z_t]; omega]
      decide
    rw [iw_eq m 0 0 hin]
    refine (if_neg c1).trans ((if_pos c2).trans ?_)
    rw [e1]
    rcases iw_loop h4 h6 9 0 (by omega) (by omega) with ⟨b1, _⟩ | ⟨b1, _⟩
    · have b2 : k_X7_isWord_21 m 9 1 0 = 1 := b1
      rw [b2]; rfl
    · have b2 : k_X7_isWord_21 m 9 1 0 = 0 := b1
      rw [b2]; rfl
  · have c2 : ¬ f_X1_length 200 (c 2) = f_X1_length 8 (c 3) := by
      show ¬ (c 2).1 1 = (c 3).1 1
      rw [h1, h3, nI_eq (by omega) (by omega)]
      exact d
    have hin : f_X7_in (Int32.toInt64 (m.1 0 - m.1 11)) (Int32.toInt64 0) (Int32.toInt64 0) = 0 := by
      rcases Classical.em (f_X7_in (Int32.toInt64 (m.1 0 - m.1 11)) (Int32.toInt64 0) (Int32.toInt64 0) = 0) with z | z
      · exact z
      · have z2 := in_t z
        rw [Int32.toInt_toInt64, Int32.toInt_toInt64, h2, h4, sub_nI (by omega) (by omega), z_t] at z2
        omega
    rw [iw_no m 0 0 hin]
    exact (if_neg c1).trans (if_neg c2)
/-! a new word -/
theorem bt_loop {t : ob_S} {q : Nat} (ht : t.1 1 = nI q) (hq : q ≤ 200) : ∀ (n i : Nat) (s : ob_S) (l : Nat), q < n + i → i ≤ q → s.1 1 = nI l → l + (q - i) ≤ 8 →
    (k_X1_becomeTail_6 8 200 t n (nI i) s).1 1 = nI (l + (q - i)) ∧ pr_ ((k_X1_becomeTail_6 8 200 t n (nI i) s).2 0) (l + (q - i)) = pr_ (s.2 0) l ++ pr_ (fun j => t.2 0 (i + j)) (q - i) := by
  intro n
  induction n with
  | zero => intro i s l h1 h2; omega
  | succ n ih =>
    intro i s l h1 h2 hs hl
    by_cases c : t.1 1 ≤ nI i
    · have e : k_X1_becomeTail_6 8 200 t (n + 1) (nI i) s = s := if_pos c
      rw [ht, nl_t (by omega) (by omega)] at c
      have : q - i = 0 := by omega
      rw [e, this]
      exact ⟨hs, by simp [pr_]⟩
    · have ck := c
      rw [ht, nl_t (by omega) (by omega)] at ck
      have ea : f_X1_at 200 t (nI i) = t.2 0 i := at_nI (by decide) ht hq (by omega)
      have eb : f_X1_append 8 s (t.2 0 i) = (1, ob_i (ob_a s 0 l (t.2 0 i)) 1 (nI (l + 1))) := by
        have d1 : ¬ s.1 1 < 0 := by rw [hs]; exact nI_pos (by omega)
        have d2 : s.1 1 < Int32.ofNat 8 := by rw [hs]; exact nI_lt (by omega) (by omega)
        exact (if_neg d1).trans ((if_pos d2).trans (by rw [hs, tn_nI (by omega), nI_s]))
      have e : k_X1_becomeTail_6 8 200 t (n + 1) (nI i) s = k_X1_becomeTail_6 8 200 t n (nI (i + 1)) (ob_i (ob_a s 0 l (t.2 0 i)) 1 (nI (l + 1))) := (if_neg c).trans (by
        show k_X1_becomeTail_6 8 200 t n (nI i + 1) (f_X1_append 8 s (f_X1_at 200 t (nI i))).2 = _
        rw [nI_s, ea, eb])
      rw [e]
      obtain ⟨g1, g2⟩ := ih (i + 1) (ob_i (ob_a s 0 l (t.2 0 i)) 1 (nI (l + 1))) (l + 1) (by omega) (by omega) rfl (by omega)
      have el : l + 1 + (q - (i + 1)) = l + (q - i) := by omega
      rw [el] at g1 g2
      refine ⟨g1, g2.trans ?_⟩
      show pr_ (upd (s.2 0) l (t.2 0 i)) (l + 1) ++ pr_ (fun j => t.2 0 (i + 1 + j)) (q - (i + 1)) = _
      rw [pr_s, pr_upd (Nat.le_refl l), pk_us, List.append_assoc]
      congr 1
      apply List.ext_getElem?
      intro k
      cases k with
      | zero => simp [pr_, show 0 < q - i by omega]
      | succ k =>
        by_cases hk : k + 1 < q - i
        · simp [pr_, hk, show k < q - (i + 1) by omega, show i + 1 + k = i + (k + 1) by omega]
        · simp [pr_, hk, show ¬ k < q - (i + 1) by omega]
theorem st_loop (b : Nat) (hb : b ≤ 8) : ∀ (n i L : Nat) (m : ob_S), L < n + i → i ≤ L → L ≤ 8 → m.1 11 = nI L →
    (k_X7_sets_36 (nI b) n (nI i) m).1 = 1 ∧ (k_X7_sets_36 (nI b) n (nI i) m).2.1 = m.1 ∧ (∀ j, j ≠ 12 → (k_X7_sets_36 (nI b) n (nI i) m).2.2 j = m.2 j) ∧ (∀ j, j < i → (k_X7_sets_36 (nI b) n (nI i) m).2.2 12 j = m.2 12 j) ∧ (∀ j, i ≤ j → j < L → (k_X7_sets_36 (nI b) n (nI i) m).2.2 12 j = m.2 1 (b + j)) := by
  intro n
  induction n with
  | zero => intro i L m h1 h2; omega
  | succ n ih =>
    intro i L m h1 h2 h3 hm
    by_cases c : m.1 11 ≤ nI i
    · have e : k_X7_sets_36 (nI b) (n + 1) (nI i) m = (1, m) := if_pos c
      rw [hm, nl_t (by omega) (by omega)] at c
      rw [e]
      exact ⟨rfl, rfl, fun _ _ => rfl, fun _ _ => rfl, fun j hj hk => by omega⟩
    · have e : k_X7_sets_36 (nI b) (n + 1) (nI i) m = k_X7_sets_36 (nI b) n (nI (i + 1)) (ob_a m 12 i (m.2 1 (b + i))) := (if_neg c).trans (by rw [nI_s, nI_add, tn_nI (by omega), tn_nI (by omega)])
      rw [hm, nl_t (by omega) (by omega)] at c
      rw [e]
      obtain ⟨g1, g2, g3, g4, g5⟩ := ih (i + 1) L (ob_a m 12 i (m.2 1 (b + i))) (by omega) (by omega) h3 hm
      refine ⟨g1, g2, fun j hj => (g3 j hj).trans (if_neg hj), fun j hj => ?_, fun j hj hk => ?_⟩
      · refine (g4 j (by omega)).trans ?_
        show upd (m.2 12) i (m.2 1 (b + i)) j = m.2 12 j
        exact pk_un (by omega)
      · by_cases z : j = i
        · subst z
          refine (g4 j (by omega)).trans ?_
          show upd (m.2 12) j (m.2 1 (b + j)) j = _
          exact pk_us
        · exact g5 j (by omega) hk
/-! small tables, looked through whole -/
theorem tab3 {P : Int32 → Int32 → Int32 → Prop} {a b c : Nat} (h : ∀ i : Fin a, ∀ j : Fin b, ∀ k : Fin c, P (nI i) (nI j) (nI k)) {x y z : Int32} (hx : 0 ≤ x.toInt ∧ x.toInt < a) (hy : 0 ≤ y.toInt ∧ y.toInt < b) (hz : 0 ≤ z.toInt ∧ z.toInt < c) : P x y z := by
  have g : ∀ {w : Int32} {n : Nat}, 0 ≤ w.toInt ∧ w.toInt < n → ∃ k : Fin n, w = nI k := by
    intro w n hw
    have h2 := Int32.toInt_lt w
    refine ⟨⟨w.toInt.toNat, by omega⟩, ?_⟩
    apply Int32.toInt_inj.mp
    show w.toInt = (nI w.toInt.toNat).toInt
    rw [nI_toInt (by omega)]
    omega
  obtain ⟨i, rfl⟩ := g hx
  obtain ⟨j, rfl⟩ := g hy
  obtain ⟨k, rfl⟩ := g hz
  exact h i j k
/-- the window, as the card and as the reference reckon it -/
def wc_ (pt sp ht : Int32) : Int32 := f_X2_isInWindow ((fun k => if k = 1 then sp else pt), fun _ _ => 0) ht
def wm_ (pt sp ht : Int32) : Int32 := f_X7_isInWindow ((fun k => if k = 20 then pt else if k = 19 then sp else ht), fun _ _ => 0)
set_option maxRecDepth 100000 in
theorem win_tab : ∀ i : Fin 16, ∀ j : Fin 4, ∀ k : Fin 16, wc_ (nI i) (nI j) (nI k) = wm_ (nI i) (nI j) (nI k) := by decide +kernel
theorem win_eq {c m : ob_S} {ht : Int32} (h1 : c.1 1 = m.1 19) (h2 : c.1 2 = m.1 20) (h3 : ht = m.1 2) (r1 : 0 ≤ (m.1 20).toInt ∧ (m.1 20).toInt < 16) (r2 : 0 ≤ (m.1 19).toInt ∧ (m.1 19).toInt < 4) (r3 : 0 ≤ (m.1 2).toInt ∧ (m.1 2).toInt < 16) : f_X2_isInWindow c ht = f_X7_isInWindow m := by
  have e1 : f_X2_isInWindow c ht = wc_ (c.1 2) (c.1 1) ht := rfl
  have e2 : f_X7_isInWindow m = wm_ (m.1 20) (m.1 19) (m.1 2) := rfl
  rw [e1, e2, h1, h2, h3]
  exact tab3 (P := fun x y z => wc_ x y z = wm_ x y z) (a := 16) (b := 4) (c := 16) win_tab r1 r2 r3
