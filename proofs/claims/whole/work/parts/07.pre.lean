/-! What the contracts ask, and plain facts of the functions that they need. -/
def pc_A (u : cd_S) : Prop := ((u 1).1 4).toInt ≤ 64 ∧ (0 ≤ ((u 3).1 1).toInt ∧ ((u 3).1 1).toInt ≤ 200) ∧ ((u 2).1 1).toInt ≤ 200
def pm_A (u : ob_S) : Prop := (¬ u.1 23 ≤ 0 → vp_in (u.2 24 (Int32.toNatClampNeg 0)) 64) ∧ (u.1 13).toInt ≤ 64 ∧ (u.1 3).toInt ≤ 64 ∧ 0 ≤ (u.1 27 * u.1 4).toInt ∧ (¬ u.1 4 = 0) ∧ (0 ≤ (u.1 11).toInt ∧ (u.1 11).toInt ≤ 8) ∧ (u.1 0).toInt ≤ 200
def pm_T (u : ob_S) : Prop := (¬ u.1 23 ≤ 0 → vp_in (u.2 24 (Int32.toNatClampNeg 0)) 64 ∧ (0 ≤ ((f_X7_forgets (ob_a (ob_i u 7 (u.1 7 + 1)) 26 (Int32.toNatClampNeg 0) (u.2 26 (Int32.toNatClampNeg 0) + 1)) (u.2 24 (Int32.toNatClampNeg 0))).1 13).toInt ∧ ((f_X7_forgets (ob_a (ob_i u 7 (u.1 7 + 1)) 26 (Int32.toNatClampNeg 0) (u.2 26 (Int32.toNatClampNeg 0) + 1)) (u.2 24 (Int32.toNatClampNeg 0))).1 13).toInt ≤ 63)) ∧ (u.1 13).toInt ≤ 64 ∧ (u.1 3).toInt ≤ 64 ∧ 0 ≤ (u.1 27 * u.1 4).toInt
theorem ne_t {x k : Int32} {n : Int} (h : ¬ x = k) (hk : k.toInt = n) : x.toInt ≠ n := fun e => h (Int32.toInt_inj.mp (by rw [hk]; exact e))
theorem has_t {u : ob_S} {q : Int32} (h : ¬ (f_X3_has u q) = 0) : 0 ≤ q.toInt ∧ q.toInt < (u.1 4).toInt := by
  unfold f_X3_has at h
  by_cases h1 : q < 0
  · exact absurd (if_pos h1) h
  · rw [if_neg h1] at h
    by_cases h2 : u.1 4 ≤ q
    · exact absurd (if_pos h2) h
    · exact ⟨nlt_k h1 z_t, nle_t h2⟩
theorem os_t {x a b : Int32} (h : (f_X6_isOutside x a b) = 0) : a.toInt ≤ x.toInt ∧ x.toInt ≤ b.toInt := by
  unfold f_X6_isOutside at h
  by_cases h1 : x < a
  · rw [if_pos h1] at h; exact absurd h (by decide)
  · rw [if_neg h1] at h
    by_cases h2 : x ≤ b
    · exact ⟨nlt_t h1, le_t h2⟩
    · rw [if_neg h2] at h; exact absurd h (by decide)
theorem in_t {a b c : Int64} (h : ¬ (f_X7_in a b c) = 0) : b.toInt ≤ a.toInt ∧ a.toInt ≤ c.toInt := by
  unfold f_X7_in at h
  by_cases h1 : lg_cmp a b < 0
  · exact absurd (if_pos h1) h
  · rw [if_neg h1] at h
    by_cases h2 : 0 < lg_cmp a c
    · exact absurd (if_pos h2) h
    · rw [lg_cmp_lt, Int64.lt_iff_toInt_lt] at h1
      rw [lg_cmp_gt, Int64.lt_iff_toInt_lt] at h2
      omega
theorem bz_X7_in (a b c : Int64) : (f_X7_in a b c) = 0 ∨ (f_X7_in a b c) = 1 := by
  unfold f_X7_in
  exact bz_ite (Or.inl rfl) (bz_ite (Or.inl rfl) (Or.inr rfl))
/-! forgets and empties -/
theorem kf_k (b : Int32) (k : Nat) (hk : k ≠ 13) : ∀ (n : Nat) (x2 x3 : Int32) (u : ob_S), (k_X7_forgets_4 b n x2 x3 u).1 k = u.1 k := by
  intro n
  induction n with
  | zero => intro x2 x3 u; rfl
  | succ n ih =>
    intro x2 x3 u
    unfold k_X7_forgets_4
    split
    · exact if_neg hk
    · split
      · exact ih _ _ _
      · rw [ih]; rfl
theorem kf_13 (b : Int32) : ∀ (n : Nat) (x2 x3 : Int32) (u : ob_S), x2.toInt ≤ x3.toInt → x3.toInt ≤ 64 → (u.1 13).toInt ≤ 64 → ((k_X7_forgets_4 b n x2 x3 u).1 13).toInt ≤ 64 := by
  intro n
  induction n with
  | zero => intro x2 x3 u _ _ h; exact h
  | succ n ih =>
    intro x2 x3 u h1 h2 h3
    unfold k_X7_forgets_4
    split
    · show x2.toInt ≤ 64
      omega
    · rename_i c
      have c1 := nle_t c
      have e3 := inc_b (n := 64) (x := x3) (by omega) (by decide)
      have e2 := inc_b (n := 64) (x := x2) (by omega) (by decide)
      split
      · exact ih _ _ _ (by omega) (by omega) h3
      · exact ih _ _ _ (by omega) (by omega) h3
theorem fe_k {u : ob_S} {b t : Int32} {k : Nat} (hk : k ≠ 13) : (f_X7_empties u b t).1 k = u.1 k := by
  show (k_X7_forgets_4 b 65 0 0 _).1 k = u.1 k
  rw [kf_k b k hk]; rfl
theorem fe_3 {u : ob_S} {b t : Int32} : (f_X7_empties u b t).1 3 = u.1 3 := fe_k (by decide)
theorem fe_13 {u : ob_S} {b t : Int32} (h : (u.1 13).toInt ≤ 64) : ((f_X7_empties u b t).1 13).toInt ≤ 64 := by
  show ((k_X7_forgets_4 b 65 0 0 _).1 13).toInt ≤ 64
  exact kf_13 b 65 0 0 _ (by decide) (by decide) h
theorem ge_1 {u : ob_S} {b t : Int32} (h : 0 ≤ (u.1 27 * u.1 4).toInt) : 0 ≤ ((f_X7_empties u b t).1 27 * (f_X7_empties u b t).1 4).toInt := by
  rw [fe_k (by decide), fe_k (by decide)]; exact h
theorem ge_2 {u : ob_S} {b t : Int32} (h : (u.1 3).toInt ≤ 64) : ((f_X7_empties u b t).1 3).toInt ≤ 64 := by
  rw [fe_3]; exact h
/-! the word -/
theorem iw_0 (u : ob_S) (n : Nat) (x4 : Int32) : k_X7_isWord_21 u n 0 x4 = 0 := by
  cases n with
  | zero => rfl
  | succ n =>
    unfold k_X7_isWord_21
    split
    · rfl
    · rw [if_pos rfl]
theorem iw_in {u : ob_S} (hw : 0 ≤ (u.1 11).toInt ∧ (u.1 11).toInt ≤ 8) (hl : (u.1 0).toInt ≤ 200) (h : ¬ (f_X7_isWord u 1 8) = 0) : (u.1 0 - u.1 11).toInt ≤ 8 ∧ 0 ≤ (u.1 11).toInt ∧ (u.1 11).toInt + (u.1 0 - u.1 11).toInt ≤ 200 := by
  have h1 : ¬ (f_X7_in (Int32.toInt64 ((u.1 0) - (u.1 11))) (Int32.toInt64 1) (Int32.toInt64 8)) = 0 := by
    intro e
    apply h
    show k_X7_isWord_21 u 9 (f_X7_in _ _ _) 0 = 0
    rw [e]; exact iw_0 u 9 0
  have h2 := in_t h1
  rw [Int32.toInt_toInt64, Int32.toInt_toInt64, Int32.toInt_toInt64, o_t] at h2
  have e8 : (8 : Int32).toInt = 8 := by decide
  rw [e8] at h2
  refine ⟨h2.2, hw.1, ?_⟩
  have l0 := Int32.le_toInt (u.1 0)
  have e : (u.1 0 - u.1 11).toInt = (u.1 0).toInt - (u.1 11).toInt ∨ (u.1 11).toInt + (u.1 0 - u.1 11).toInt ≤ 200 := by
    by_cases q : -2 ^ 31 ≤ (u.1 0).toInt - (u.1 11).toInt
    · exact Or.inl (Jvm.Kit.i32_sub q (by omega))
    · right; omega
  rcases e with e | e <;> omega
theorem bl_ix {u : ob_S} {x : Int32} (hB : 1 ≤ (u.1 3).toInt ∧ (u.1 3).toInt ≤ 64) (h : ¬ (f_X7_in (Int32.toInt64 x) 0 (Int32.toInt64 ((u.1 3) - 1))) = 0) : vp_in x 64 := by
  have h2 := in_t h
  rw [Int32.toInt_toInt64, Int32.toInt_toInt64, sub1_t (by omega)] at h2
  have e : (0 : Int64).toInt = 0 := by decide
  rw [e] at h2
  exact ix_c h2.1 (by omega)
/-! the memory's size stays -/
theorem kd_4 (a b : Int32) : ∀ (n : Nat) (x3 x4 : Int32) (u : ob_S), (k_X3_dropWritten_5 a b n x3 x4 u).1 4 = u.1 4 := by
  intro n
  induction n with
  | zero => intro x3 x4 u; rfl
  | succ n ih =>
    intro x3 x4 u
    unfold k_X3_dropWritten_5
    repeat' split
    all_goals first | rfl | (rw [ih]; rfl) | rw [ih]
theorem kb_4 (a t z : Int32) : ∀ (n : Nat) (x5 : Int32) (u : ob_S), (k_X3_blank_19 a t z n x5 u).1 4 = u.1 4 := by
  intro n
  induction n with
  | zero => intro x5 u; rfl
  | succ n ih =>
    intro x5 u
    unfold k_X3_blank_19
    split
    · exact kd_4 _ _ 65 0 0 u
    · rw [ih]; rfl
theorem tg_4 {u : cd_S} {q : Int32} (h : ((u 1).1 4).toInt ≤ 64) : ((f_X3_tear (u 1) q).1 4).toInt ≤ 64 := by
  have e : (f_X3_tear (u 1) q).1 4 = (u 1).1 4 := kb_4 _ _ _ 65 _ _
  rw [e]; exact h
/-! what hears leaves as it was -/
theorem hears_k (u : cd_S) (a b z : Int32) (k : Nat) (h0 : k ≠ 0) (h5 : k ≠ 5) : (f_X6_hears u a b z).2 k = u k := by
  unfold f_X6_hears
  repeat' split
  all_goals first | rfl | exact if_neg h0 | exact (if_neg h0).trans (if_neg h5)
theorem ob_hears {u : cd_S} {a b z : Int32} (h : pc_A u) : pc_A (f_X6_hears u a b z).2 := by
  unfold pc_A at h ⊢
  rw [hears_k u a b z 1 (by decide) (by decide), hears_k u a b z 2 (by decide) (by decide), hears_k u a b z 3 (by decide) (by decide)]
  exact h
set_option maxHeartbeats 4000000 in
/-- as en_p, for a method of a class that has entries of its own, itself without one -/
theorem en_pF {l : Launch} {y : MethodName} {ws ws' : List Cond} {rm : Room} {D : va_G} {tys : List (ClassId × FieldType)} {av : List Value} {w0 : va_W} {cc : ByteArray} {maxL : Nat} {ret : Option FieldType} {own : String} {v : Int32} (hy : plainFor y = true) (hw : ws = Cond.code y cc maxL ret :: ws') (ho : y.cls = own) (hn : (lg_sl av).length ≤ maxL)
    (body : ∀ (p : Program) (e : Env) (s : State) (m : MethodId) (args : Array Value) (below : List Frame) (meth : Method) (c : Code) (A : Nat → Prop) (ls : Array Slot), cx_C p c cc maxL s m args ws own D tys A → meth.sig.returnType = ret → meth.locks = false → va_P D vwCl w0 s.heap → va_D (fun _ => True) w0 → va_S A s.heap s.heap [] → lv_has ls maxL (lv_args 0 av) → W p l e rm s m args below meth c s.heap [] 0 0 (MQ below (ct_Qp D tys v A) args s 0 0 A) (F0 m 0 ls [])) : Ct_p l y ws rm D tys av w0 v := by
  intro sz
  refine va_MetF (cc := cc) (maxL := maxL) (ret := ret) hy hw ?_
  intro p e s m args below meth c s₁ B hml hv
  obtain ⟨rfl, hsz, hP, hK, hD0, hnz⟩ := hv
  have hts := atoms_spec (ws := ws) B.pre
  have hown : s.vm.findClass own = some m.cls := ho ▸ findClass_of_methodNamed B.named
  subst hsz
  generalize hAe : va_A ([] : va_W) s.heap.size = A at ⊢
  have hA : ∀ q : Nat, s.heap.size ≤ q → A q := fun q h => by rw [← hAe]; exact Or.inr h
  have hl := lv_entry av (n := maxL) hn
  rw [lg_entry_eq]
  generalize (lg_sl av ++ List.replicate (maxL - (lg_sl av).length) Slot.unset).toArray = ls at hl ⊢
  exact body p e s m _ below meth c A ls ⟨B.exec, B.bytes, hml, hown, hts, hK, hA, hnz⟩ B.returns B.notSynchronized hP hD0 va_S.rf hl
