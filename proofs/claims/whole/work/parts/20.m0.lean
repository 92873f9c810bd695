/-! Rows of numbers as lists -/
def pr_ (f : Nat → Int32) (n : Nat) : List Int32 := (List.range n).map f
theorem pr_s (f : Nat → Int32) (n : Nat) : pr_ f (n + 1) = pr_ f n ++ [f n] := by simp [pr_, List.range_succ]
theorem pr_len (f : Nat → Int32) (n : Nat) : (pr_ f n).length = n := by simp [pr_]
theorem pr_congr {f g : Nat → Int32} {n : Nat} (h : ∀ i, i < n → f i = g i) : pr_ f n = pr_ g n := by
  apply List.map_congr_left
  intro j hj
  exact h j (List.mem_range.mp hj)
theorem pr_upd {f : Nat → Int32} {n i : Nat} {x : Int32} (h : n ≤ i) : pr_ (upd f i x) n = pr_ f n := pr_congr (fun j hj => pk_un (by omega))
theorem pr_at {f g : Nat → Int32} {n i : Nat} (h : pr_ f n = pr_ g n) (hi : i < n) : f i = g i := by
  have h1 : (pr_ f n)[i]? = (pr_ g n)[i]? := by rw [h]
  simpa [pr_, hi] using h1
theorem pr_mem {f : Nat → Int32} {n : Nat} {x : Int32} : x ∈ pr_ f n ↔ ∃ i, i < n ∧ f i = x := by simp [pr_]
theorem pr_sub {f g : Nat → Int32} {n k : Nat} (h : pr_ f n = pr_ g n) (hk : k ≤ n) : pr_ f k = pr_ g k := pr_congr (fun i hi => pr_at h (by omega))
/-- different numbers of 0 .. B - 1: at most B; without one of them fewer -/
theorem nd_sub {L : List Int32} {B : Nat} (hb : ∀ x ∈ L, 0 ≤ x.toInt ∧ x.toInt < B) : L ⊆ (List.range B).map nI := by
  intro x hx
  obtain ⟨h0, h1⟩ := hb x hx
  have h2 := Int32.toInt_lt x
  rw [List.mem_map]
  refine ⟨x.toInt.toNat, List.mem_range.mpr (by omega), ?_⟩
  apply Int32.toInt_inj.mp
  rw [nI_toInt (by omega)]
  omega
theorem nd_le {f : Nat → Int32} {n B : Nat} (h : (pr_ f n).Nodup) (hb : ∀ x ∈ pr_ f n, 0 ≤ x.toInt ∧ x.toInt < B) : n ≤ B := by
  have h1 := List.Nodup.length_le_of_subset h (nd_sub hb)
  rw [pr_len, List.length_map, List.length_range] at h1
  exact h1
theorem nd_lt {f : Nat → Int32} {n B : Nat} {b : Int32} (h : (pr_ f n).Nodup) (hb : ∀ x ∈ pr_ f n, 0 ≤ x.toInt ∧ x.toInt < B) (hb2 : 0 ≤ b.toInt ∧ b.toInt < B) (hn : b ∉ pr_ f n) : n + 1 ≤ B := by
  have h1 := List.Nodup.length_le_of_subset (List.nodup_cons.mpr ⟨hn, h⟩) (nd_sub (B := B) (L := b :: pr_ f n) (fun x hx => by
    rcases List.mem_cons.mp hx with q | q
    · subst q; exact hb2
    · exact hb x q))
  rw [List.length_cons, pr_len, List.length_map, List.length_range] at h1
  exact h1
/-! Int32 and Nat -/
theorem tn_nI {k : Nat} (h : k < 2 ^ 31) : Int32.toNatClampNeg (nI k) = k := nI_clamp h
theorem of_rng {x : Int32} {n : Nat} (h0 : 0 ≤ x.toInt) (h1 : x.toInt ≤ n) : ∃ k : Nat, k ≤ n ∧ x = nI k ∧ x.toInt = k := by
  have h2 := Int32.toInt_lt x
  refine ⟨x.toInt.toNat, by omega, ?_, by omega⟩
  apply Int32.toInt_inj.mp
  rw [nI_toInt (by omega)]
  omega
theorem nI_s (k : Nat) : nI k + 1 = nI (k + 1) := nI_1 k
theorem nI_m (k : Nat) : nI (k + 1) + (-1) = nI k := pk_m1 k
theorem nI_p (k : Nat) : nI (k + 1) - 1 = nI k := nI_pred k
/-! filling a stretch -/
def fl_ (f : Nat → Int32) (a b : Nat) (x : Int32) : Nat → Int32 := fun i => if a ≤ i ∧ i < b then x else f i
theorem fl_0 (f : Nat → Int32) (a : Nat) (x : Int32) : fl_ f a a x = f := by
  funext i; exact if_neg (by omega)
theorem fl_s (f : Nat → Int32) {a b : Nat} (x : Int32) (h : a ≤ b) : upd (fl_ f a b x) b x = fl_ f a (b + 1) x := by
  funext i
  simp only [upd, fl_]
  by_cases e : i = b
  · subst e; simp [h]
  · rw [if_neg e]
    by_cases q : a ≤ i ∧ i < b
    · rw [if_pos q, if_pos (by omega)]
    · rw [if_neg q, if_neg (by omega)]
theorem fl_1 (f : Nat → Int32) (a : Nat) (x : Int32) : upd f a x = fl_ f a (a + 1) x := by
  have h := fl_s f (a := a) (b := a) x (Nat.le_refl a)
  rw [fl_0] at h
  exact h
theorem fl_01 {f : Nat → Int32} {a b : Nat} {x : Int32} (hf : ∀ i, f i = 0 ∨ f i = 1) (hx : x = 0 ∨ x = 1) : ∀ i, fl_ f a b x i = 0 ∨ fl_ f a b x i = 1 := by
  intro i
  simp only [fl_]
  split
  · exact hx
  · exact hf i
theorem up_self {α : Type} (f : Nat → α) (k : Nat) (v : α) : va_up f k v k = v := if_pos rfl
theorem up_ne {α : Type} (f : Nat → α) {k j : Nat} (v : α) (h : j ≠ k) : va_up f k v j = f j := if_neg h
