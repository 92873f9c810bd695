theorem ln_X3_clear_1 : Cond.methodLink RX3 22 Lib.Math.min.name ∈ wsX3_clear := List.mem_of_getElem? (i := 1) rfl
theorem ln_X3_clear_2 : Cond.static Lib.Math.min.name ∈ wsX3_clear := List.mem_of_getElem? (i := 2) rfl
theorem ln_X3_clear_3 : Cond.initialized "java/lang/Math" ∈ wsX3_clear := List.mem_of_getElem? (i := 3) rfl
theorem ln_X3_clear_4 : Cond.code Lib.Math.min.name Lib.Math.min.code 2 (some .int) ∈ wsX3_clear := List.mem_of_getElem? (i := 4) rfl
theorem ln_X3_clear_5 : Cond.methodLink RX3 28 Lib.Math.max.name ∈ wsX3_clear := List.mem_of_getElem? (i := 5) rfl
theorem ln_X3_clear_6 : Cond.static Lib.Math.max.name ∈ wsX3_clear := List.mem_of_getElem? (i := 6) rfl
theorem ln_X3_clear_7 : Cond.code Lib.Math.max.name Lib.Math.max.code 2 (some .int) ∈ wsX3_clear := List.mem_of_getElem? (i := 7) rfl
theorem ln_X3_clear_8 : Cond.fieldLink RX3 31 "BlockCard$Memory" "size" "I" ∈ wsX3_clear := List.mem_of_getElem? (i := 8) rfl
theorem in_X3_clear_3 : ∀ w ∈ wsX30, w ∈ wsX3_clear := fun w h => List.mem_cons_of_mem _ (List.mem_append_right _ h)
theorem ln_X3_clear_9 : Cond.fieldLink RX3 35 "BlockCard$Memory" "groupSize" "I" ∈ wsX3_clear := List.mem_of_getElem? (i := 9) rfl
theorem ln_X3_clear_10 : Cond.fieldLink RX3 38 "BlockCard$Memory" "writtenCount" "I" ∈ wsX3_clear := List.mem_of_getElem? (i := 10) rfl
theorem ln_X3_clear_11 : Cond.fieldLink RX3 9 "BlockCard$Memory" "contents" "[I" ∈ wsX3_clear := List.mem_of_getElem? (i := 11) rfl
theorem ln_X3_clear_12 : Cond.constant RX3 41 (65535) ∈ wsX3_clear := List.mem_of_getElem? (i := 12) rfl
theorem ln_X3_clear_13 : Cond.fieldLink RX3 15 "BlockCard$Memory" "torn" "[Z" ∈ wsX3_clear := List.mem_of_getElem? (i := 13) rfl
set_option maxHeartbeats 4000000 in
set_option maxRecDepth 100000 in
theorem lp_X3_clear_30 {p : Program} {l : Launch} {e : Env} {s : State} {m : MethodId} {args : Array Value} {below : List Frame} {meth : Method} {c : Code} {D : va_G} {A : Nat → Prop} {cI cZ : ClassId} {h h1 h2 h3 : Nat} {F : ob_S} (C : cx_C p c cX3_clear 4 s m args wsX3_clear RX3 D (ct_T cI cZ) A) (hr : meth.sig.returnType = none) (hlk : meth.locks = false)  : ∀ (n : Nat) (x3 : Int32) (u : ob_S) (H : Heap) (locs : List Loc) (ls : Array Slot), 64 - x3.toInt < (n : Int) → 0 ≤ x3.toInt ∧ x3.toInt ≤ 64 → F = k_X3_clear_30  n x3 u → va_P D vwCl (w_3 cI cZ h h1 h2 h3 u) H → va_D A (w_3 cI cZ h h1 h2 h3 u) → va_S A s.heap H locs → lv_has ls 4 [(0, .ref h), (3, .int x3)] → W p l e ({ frames := 1, cells := 0, slots := 0, locals := 24 } : Room) s m args below meth c H locs 0 0 (MQ below (ct_Qv D (ct_T cI cZ) (fun u => (w_3 cI cZ h h1 h2 h3 u)) F A) args s 0 0 A) (F0 m 30 ls []) := by
  have hx := C.1
  have hb := C.2.1
  intro n
  induction n with
  | zero =>
    intro x3 u H locs ls i0 i1
    exact absurd i0 (by omega)
  | succ n ih =>
    intro x3 u H locs ls i0 i1 hF hP hD hS hl
    refine lv_iload_n hx hb dX3_clear_30 rfl (lv_at hl 1 rfl) ?_
    refine lv_bipush (v := 64) hx hb dX3_clear_31 (by decide) ?_
    refine lv_icmp_ge (tgt := 57) hx hb dX3_clear_33 (by decide) (fun c_1 => ?_) (fun c_1 => ?_)
    · exact rt_v C hr hlk hP hD hS (hF.trans ((if_pos c_1).trans rfl)) dX3_clear_57
    · refine lv_aload_n hx hb dX3_clear_36 rfl (lv_at hl 0 rfl) ?_
      refine gt3_0 C hP in_X3_clear_3 ln_X3_clear_11 dX3_clear_37 ?_
      refine lv_iload_n hx hb dX3_clear_40 rfl (lv_at hl 1 rfl) ?_
      refine lv_ldc (v := 65535) hx hb C.2.2.2.1 (C.2.2.2.2.1 _ ln_X3_clear_12) dX3_clear_41 ?_
      refine as3_0 C hP hD hS (ix_c (n := 64) (by omega) (nle_k c_1 (by decide))) dX3_clear_43 (fun H locs hP hD hS => ?_)
      refine lv_aload_n hx hb dX3_clear_44 rfl (lv_at hl 0 rfl) ?_
      refine gt3_1 C hP in_X3_clear_3 ln_X3_clear_13 dX3_clear_45 ?_
      refine lv_iload_n hx hb dX3_clear_48 rfl (lv_at hl 1 rfl) ?_
      refine lv_iconst (v := 0) hx hb dX3_clear_49 (by decide) ?_
      refine as3_1 C hP hD hS (ix_c (n := 64) (by omega) (nle_k c_1 (by decide))) dX3_clear_50 (fun H locs hP hD hS => ?_)
      refine lv_iinc (v := (x3 + 1)) (lv' := [(3, .int _), (0, .ref _)]) hx hb dX3_clear_51 hl (k := 1) rfl rfl (by decide) rfl (fun ls hl => ?_)
      refine lv_goto (tgt := 30) hx hb dX3_clear_54 (by decide) ?_
      exact ih (x3 + 1) (ob_a (ob_a u 0 (Int32.toNatClampNeg x3) 65535) 1 (Int32.toNatClampNeg x3) (vp_nar .boolean 0))  _ _ _ (by have h := nle_k (n := 64) c_1 (by decide); have h2 := inc_b h (by decide); omega) (by have h := nle_k (n := 64) c_1 (by decide); have h2 := inc_b h (by decide); omega) (hF.trans ((if_neg c_1).trans rfl)) hP hD hS (lv_sub hl [1, 0] rfl)
set_option maxHeartbeats 4000000 in
set_option maxRecDepth 100000 in
theorem c_X3_clear (l : Launch) (D : va_G) (cI cZ : ClassId) (h h1 h2 h3 : Nat) (u : ob_S) (x1 : Int32) (x2 : Int32)  : Ct_v l yX3_clear wsX3_clear ({ frames := 1, cells := 0, slots := 0, locals := 24 } : Room) D (ct_T cI cZ) [.ref h, .int x1, .int x2] (w_3 cI cZ h h1 h2 h3 u) (fun u => (w_3 cI cZ h h1 h2 h3 u)) (f_X3_clear u x1 x2) := by
  refine en_v (cc := cX3_clear) (maxL := 4) (ret := none) (own := RX3) (by decide +kernel) rfl rfl (Nat.le_of_ble_eq_true rfl) ?_
  intro p e s m args below meth c A ls C hr hlk hP hD hS hl
  have hx := C.1
  have hb := C.2.1
  have hl : lv_has ls 4 [(0, .ref h), (1, .int x1), (2, .int x2)] := hl
  refine lv_aload_n hx hb dX3_clear_0 rfl (lv_at hl 0 rfl) ?_
  refine lv_iconst (v := 0) hx hb dX3_clear_1 (by decide) ?_
  refine lv_iload_n hx hb dX3_clear_2 rfl (lv_at hl 1 rfl) ?_
  refine lv_bipush (v := 64) hx hb dX3_clear_3 (by decide) ?_
  refine va_mmin hx hb (C.2.2.1.trans hl.1.symm) C.2.2.2.1 (C.2.2.2.2.1 _ ln_X3_clear_1) (C.2.2.2.2.1 _ ln_X3_clear_2) (C.2.2.2.2.1 _ ln_X3_clear_3) (C.2.2.2.2.1 _ ln_X3_clear_4) (Nat.le_of_ble_eq_true rfl) (Nat.le_of_ble_eq_true rfl) (Nat.zero_le _) (Nat.zero_le _) dX3_clear_5 ?_
  refine va_mmax hx hb (C.2.2.1.trans hl.1.symm) C.2.2.2.1 (C.2.2.2.2.1 _ ln_X3_clear_5) (C.2.2.2.2.1 _ ln_X3_clear_6) (C.2.2.2.2.1 _ ln_X3_clear_3) (C.2.2.2.2.1 _ ln_X3_clear_7) (Nat.le_of_ble_eq_true rfl) (Nat.le_of_ble_eq_true rfl) (Nat.zero_le _) (Nat.zero_le _) dX3_clear_8 ?_
  refine pt3_4 C hP hD hS in_X3_clear_3 ln_X3_clear_8 dX3_clear_11 (fun H locs hP hD hS => ?_)
  refine lv_aload_n hx hb dX3_clear_14 rfl (lv_at hl 0 rfl) ?_
  refine lv_iconst (v := 1) hx hb dX3_clear_15 (by decide) ?_
  refine lv_iload_n hx hb dX3_clear_16 rfl (lv_at hl 2 rfl) ?_
  refine va_mmax hx hb (C.2.2.1.trans hl.1.symm) C.2.2.2.1 (C.2.2.2.2.1 _ ln_X3_clear_5) (C.2.2.2.2.1 _ ln_X3_clear_6) (C.2.2.2.2.1 _ ln_X3_clear_3) (C.2.2.2.2.1 _ ln_X3_clear_7) (Nat.le_of_ble_eq_true rfl) (Nat.le_of_ble_eq_true rfl) (Nat.zero_le _) (Nat.zero_le _) dX3_clear_17 ?_
  refine pt3_5 C hP hD hS in_X3_clear_3 ln_X3_clear_9 dX3_clear_20 (fun H locs hP hD hS => ?_)
  refine lv_aload_n hx hb dX3_clear_23 rfl (lv_at hl 0 rfl) ?_
  refine lv_iconst (v := 0) hx hb dX3_clear_24 (by decide) ?_
  refine pt3_3 C hP hD hS in_X3_clear_3 ln_X3_clear_10 dX3_clear_25 (fun H locs hP hD hS => ?_)
  refine lv_iconst (v := 0) hx hb dX3_clear_28 (by decide) ?_
  refine lv_istore_n (lv' := [(3, .int _), (0, .ref _), (1, .int _), (2, .int _)]) hx hb dX3_clear_29 rfl hl (by decide) rfl (fun ls hl => ?_)
  exact lp_X3_clear_30 C hr hlk  65 0 (ob_i (ob_i (ob_i u 4 (if 0 < (if 64 < x1 then 64 else x1) then (if 64 < x1 then 64 else x1) else 0)) 5 (if 1 < x2 then x2 else 1)) 3 0) _ _ _ (by decide) (by decide) rfl hP hD hS (lv_sub hl [1, 0] rfl)
theorem ln_X3_dropWritten_1 : Cond.fieldLink RX3 38 "BlockCard$Memory" "writtenCount" "I" ∈ wsX3_dropWritten := List.mem_of_getElem? (i := 1) rfl
theorem in_X3_dropWritten_3 : ∀ w ∈ wsX30, w ∈ wsX3_dropWritten := fun w h => List.mem_cons_of_mem _ (List.mem_append_right _ h)
theorem ln_X3_dropWritten_2 : Cond.fieldLink RX3 19 "BlockCard$Memory" "written" "[I" ∈ wsX3_dropWritten := List.mem_of_getElem? (i := 2) rfl
set_option maxHeartbeats 4000000 in
set_option maxRecDepth 100000 in
theorem lp_X3_dropWritten_5 {p : Program} {l : Launch} {e : Env} {s : State} {m : MethodId} {args : Array Value} {below : List Frame} {meth : Method} {c : Code} {D : va_G} {A : Nat → Prop} {cI cZ : ClassId} {h h1 h2 h3 : Nat} {x1 : Int32} {x2 : Int32} {F : ob_S} (C : cx_C p c cX3_dropWritten 5 s m args wsX3_dropWritten RX3 D (ct_T cI cZ) A) (hr : meth.sig.returnType = none) (hlk : meth.locks = false)  : ∀ (n : Nat) (x3 : Int32) (x4 : Int32) (u : ob_S) (H : Heap) (locs : List Loc) (ls : Array Slot), 64 - x4.toInt < (n : Int) → 0 ≤ x3.toInt ∧ x3.toInt ≤ x4.toInt ∧ x4.toInt ≤ 64 → F = k_X3_dropWritten_5 x1 x2 n x3 x4 u → va_P D vwCl (w_3 cI cZ h h1 h2 h3 u) H → va_D A (w_3 cI cZ h h1 h2 h3 u) → va_S A s.heap H locs → lv_has ls 5 [(0, .ref h), (1, .int x1), (2, .int x2), (3, .int x3), (4, .int x4)] → W p l e ({ frames := 0, cells := 0, slots := 0, locals := 0 } : Room) s m args below meth c H locs 0 0 (MQ below (ct_Qv D (ct_T cI cZ) (fun u => (w_3 cI cZ h h1 h2 h3 u)) F A) args s 0 0 A) (F0 m 5 ls []) := by
  have hx := C.1
  have hb := C.2.1
  intro n
  induction n with
  | zero =>
    intro x3 x4 u H locs ls i0 i1
    exact absurd i0 (by omega)
  | succ n ih =>
    intro x3 x4 u H locs ls i0 i1 hF hP hD hS hl
    refine lv_iload hx hb dX3_dropWritten_5 (lv_at hl 4 rfl) ?_
    refine lv_aload_n hx hb dX3_dropWritten_7 rfl (lv_at hl 0 rfl) ?_
    refine gt3_3 C hP in_X3_dropWritten_3 ln_X3_dropWritten_1 (v := (u.1 3)) rfl dX3_dropWritten_8 ?_
    refine lv_icmp_ge (tgt := 65) hx hb dX3_dropWritten_11 (by decide) (fun c_1 => ?_) (fun c_1 => ?_)
    · refine lv_aload_n hx hb dX3_dropWritten_65 rfl (lv_at hl 0 rfl) ?_
      refine lv_iload_n hx hb dX3_dropWritten_66 rfl (lv_at hl 3 rfl) ?_
      refine pt3_3 C hP hD hS in_X3_dropWritten_3 ln_X3_dropWritten_1 dX3_dropWritten_67 (fun H locs hP hD hS => ?_)
      exact rt_v C hr hlk hP hD hS (hF.trans ((if_pos c_1).trans rfl)) dX3_dropWritten_70
    · refine lv_iload hx hb dX3_dropWritten_14 (lv_at hl 4 rfl) ?_
      refine lv_bipush (v := 64) hx hb dX3_dropWritten_16 (by decide) ?_
      refine lv_icmp_ge (tgt := 65) hx hb dX3_dropWritten_18 (by decide) (fun c_2 => ?_) (fun c_2 => ?_)
      · refine lv_aload_n hx hb dX3_dropWritten_65 rfl (lv_at hl 0 rfl) ?_
        refine lv_iload_n hx hb dX3_dropWritten_66 rfl (lv_at hl 3 rfl) ?_
        refine pt3_3 C hP hD hS in_X3_dropWritten_3 ln_X3_dropWritten_1 dX3_dropWritten_67 (fun H locs hP hD hS => ?_)
        exact rt_v C hr hlk hP hD hS (hF.trans ((if_neg c_1).trans ((if_pos c_2).trans rfl))) dX3_dropWritten_70
      · refine lv_aload_n hx hb dX3_dropWritten_21 rfl (lv_at hl 0 rfl) ?_
        refine gt3_2 C hP in_X3_dropWritten_3 ln_X3_dropWritten_2 dX3_dropWritten_22 ?_
        refine lv_iload hx hb dX3_dropWritten_25 (lv_at hl 4 rfl) ?_
        refine al3_2 C hP (ix_c (n := 64) (by omega) (nle_k c_2 (by decide))) (v := (u.2 2 (Int32.toNatClampNeg x4))) rfl dX3_dropWritten_27 ?_
        refine lv_iload_n hx hb dX3_dropWritten_28 rfl (lv_at hl 1 rfl) ?_
        refine lv_icmp_lt (tgt := 43) hx hb dX3_dropWritten_29 (by decide) (fun c_3 => ?_) (fun c_3 => ?_)
        · refine lv_aload_n hx hb dX3_dropWritten_43 rfl (lv_at hl 0 rfl) ?_
          refine gt3_2 C hP in_X3_dropWritten_3 ln_X3_dropWritten_2 dX3_dropWritten_44 ?_
          refine lv_iload_n hx hb dX3_dropWritten_47 rfl (lv_at hl 3 rfl) ?_
          refine lv_aload_n hx hb dX3_dropWritten_48 rfl (lv_at hl 0 rfl) ?_
          refine gt3_2 C hP in_X3_dropWritten_3 ln_X3_dropWritten_2 dX3_dropWritten_49 ?_
          refine lv_iload hx hb dX3_dropWritten_52 (lv_at hl 4 rfl) ?_
          refine al3_2 C hP (ix_c (n := 64) (by omega) (nle_k c_2 (by decide))) (v := (u.2 2 (Int32.toNatClampNeg x4))) rfl dX3_dropWritten_54 ?_
          refine as3_2 C hP hD hS (ix_c (n := 64) i1.1 (by have h := nle_k (n := 64) c_2 (by decide); omega)) dX3_dropWritten_55 (fun H locs hP hD hS => ?_)
          refine lv_iinc (v := (x3 + 1)) (lv' := [(3, .int _), (0, .ref _), (1, .int _), (2, .int _), (4, .int _)]) hx hb dX3_dropWritten_56 hl (k := 3) rfl rfl (by decide) rfl (fun ls hl => ?_)
          refine lv_iinc (v := (x4 + 1)) (lv' := [(4, .int _), (3, .int _), (0, .ref _), (1, .int _), (2, .int _)]) hx hb dX3_dropWritten_59 hl (k := 4) rfl rfl (by decide) rfl (fun ls hl => ?_)
          refine lv_goto (tgt := 5) hx hb dX3_dropWritten_62 (by decide) ?_
          exact ih (x3 + 1) (x4 + 1) (ob_a u 2 (Int32.toNatClampNeg x3) (u.2 2 (Int32.toNatClampNeg x4)))  _ _ _ (by have h := nle_k (n := 64) c_2 (by decide); have h2 := inc_b h (by decide); have h3 := inc_b (n := 64) (x := x3) (by omega) (by decide); omega) (by have h := nle_k (n := 64) c_2 (by decide); have h2 := inc_b h (by decide); have h3 := inc_b (n := 64) (x := x3) (by omega) (by decide); omega) (hF.trans ((if_neg c_1).trans ((if_neg c_2).trans ((if_pos c_3).trans rfl)))) hP hD hS (lv_sub hl [2, 3, 4, 1, 0] rfl)
        · refine lv_aload_n hx hb dX3_dropWritten_32 rfl (lv_at hl 0 rfl) ?_
          refine gt3_2 C hP in_X3_dropWritten_3 ln_X3_dropWritten_2 dX3_dropWritten_33 ?_
          refine lv_iload hx hb dX3_dropWritten_36 (lv_at hl 4 rfl) ?_
          refine al3_2 C hP (ix_c (n := 64) (by omega) (nle_k c_2 (by decide))) (v := (u.2 2 (Int32.toNatClampNeg x4))) rfl dX3_dropWritten_38 ?_
          refine lv_iload_n hx hb dX3_dropWritten_39 rfl (lv_at hl 2 rfl) ?_
          refine lv_icmp_lt (tgt := 59) hx hb dX3_dropWritten_40 (by decide) (fun c_4 => ?_) (fun c_4 => ?_)
          · refine lv_iinc (v := (x4 + 1)) (lv' := [(4, .int _), (0, .ref _), (1, .int _), (2, .int _), (3, .int _)]) hx hb dX3_dropWritten_59 hl (k := 4) rfl rfl (by decide) rfl (fun ls hl => ?_)
            refine lv_goto (tgt := 5) hx hb dX3_dropWritten_62 (by decide) ?_
            exact ih x3 (x4 + 1) u  _ _ _ (by have h := nle_k (n := 64) c_2 (by decide); have h2 := inc_b h (by decide); have h3 := inc_b (n := 64) (x := x3) (by omega) (by decide); omega) (by have h := nle_k (n := 64) c_2 (by decide); have h2 := inc_b h (by decide); have h3 := inc_b (n := 64) (x := x3) (by omega) (by decide); omega) (hF.trans ((if_neg c_1).trans ((if_neg c_2).trans ((if_neg c_3).trans ((if_pos c_4).trans rfl))))) hP hD hS (lv_sub hl [1, 2, 3, 4, 0] rfl)
          · refine lv_aload_n hx hb dX3_dropWritten_43 rfl (lv_at hl 0 rfl) ?_
            refine gt3_2 C hP in_X3_dropWritten_3 ln_X3_dropWritten_2 dX3_dropWritten_44 ?_
            refine lv_iload_n hx hb dX3_dropWritten_47 rfl (lv_at hl 3 rfl) ?_
            refine lv_aload_n hx hb dX3_dropWritten_48 rfl (lv_at hl 0 rfl) ?_
            refine gt3_2 C hP in_X3_dropWritten_3 ln_X3_dropWritten_2 dX3_dropWritten_49 ?_
            refine lv_iload hx hb dX3_dropWritten_52 (lv_at hl 4 rfl) ?_
            refine al3_2 C hP (ix_c (n := 64) (by omega) (nle_k c_2 (by decide))) (v := (u.2 2 (Int32.toNatClampNeg x4))) rfl dX3_dropWritten_54 ?_
            refine as3_2 C hP hD hS (ix_c (n := 64) i1.1 (by have h := nle_k (n := 64) c_2 (by decide); omega)) dX3_dropWritten_55 (fun H locs hP hD hS => ?_)
            refine lv_iinc (v := (x3 + 1)) (lv' := [(3, .int _), (0, .ref _), (1, .int _), (2, .int _), (4, .int _)]) hx hb dX3_dropWritten_56 hl (k := 3) rfl rfl (by decide) rfl (fun ls hl => ?_)
            refine lv_iinc (v := (x4 + 1)) (lv' := [(4, .int _), (3, .int _), (0, .ref _), (1, .int _), (2, .int _)]) hx hb dX3_dropWritten_59 hl (k := 4) rfl rfl (by decide) rfl (fun ls hl => ?_)
            refine lv_goto (tgt := 5) hx hb dX3_dropWritten_62 (by decide) ?_
            exact ih (x3 + 1) (x4 + 1) (ob_a u 2 (Int32.toNatClampNeg x3) (u.2 2 (Int32.toNatClampNeg x4)))  _ _ _ (by have h := nle_k (n := 64) c_2 (by decide); have h2 := inc_b h (by decide); have h3 := inc_b (n := 64) (x := x3) (by omega) (by decide); omega) (by have h := nle_k (n := 64) c_2 (by decide); have h2 := inc_b h (by decide); have h3 := inc_b (n := 64) (x := x3) (by omega) (by decide); omega) (hF.trans ((if_neg c_1).trans ((if_neg c_2).trans ((if_neg c_3).trans ((if_neg c_4).trans rfl))))) hP hD hS (lv_sub hl [2, 3, 4, 1, 0] rfl)
set_option maxHeartbeats 4000000 in
set_option maxRecDepth 100000 in
theorem c_X3_dropWritten (l : Launch) (D : va_G) (cI cZ : ClassId) (h h1 h2 h3 : Nat) (u : ob_S) (x1 : Int32) (x2 : Int32)  : Ct_v l yX3_dropWritten wsX3_dropWritten ({ frames := 0, cells := 0, slots := 0, locals := 0 } : Room) D (ct_T cI cZ) [.ref h, .int x1, .int x2] (w_3 cI cZ h h1 h2 h3 u) (fun u => (w_3 cI cZ h h1 h2 h3 u)) (f_X3_dropWritten u x1 x2) := by
  refine en_v (cc := cX3_dropWritten) (maxL := 5) (ret := none) (own := RX3) (by decide +kernel) rfl rfl (Nat.le_of_ble_eq_true rfl) ?_
  intro p e s m args below meth c A ls C hr hlk hP hD hS hl
  have hx := C.1
  have hb := C.2.1
  have hl : lv_has ls 5 [(0, .ref h), (1, .int x1), (2, .int x2)] := hl
  refine lv_iconst (v := 0) hx hb dX3_dropWritten_0 (by decide) ?_
  refine lv_istore_n (lv' := [(3, .int _), (0, .ref _), (1, .int _), (2, .int _)]) hx hb dX3_dropWritten_1 rfl hl (by decide) rfl (fun ls hl => ?_)
  refine lv_iconst (v := 0) hx hb dX3_dropWritten_2 (by decide) ?_
  refine lv_istore (lv' := [(4, .int _), (3, .int _), (0, .ref _), (1, .int _), (2, .int _)]) hx hb dX3_dropWritten_3 hl (by decide) rfl (fun ls hl => ?_)
  exact lp_X3_dropWritten_5 C hr hlk  65 0 0 u _ _ _ (by decide) (by decide) rfl hP hD hS (lv_sub hl [2, 3, 4, 1, 0] rfl)
theorem ln_X3_blank_1 : Cond.fieldLink RX3 31 "BlockCard$Memory" "size" "I" ∈ wsX3_blank := List.mem_of_getElem? (i := 1) rfl
theorem in_X3_blank_3 : ∀ w ∈ wsX30, w ∈ wsX3_blank := fun w h => List.mem_cons_of_mem _ (List.mem_append_right _ h)
theorem ln_X3_blank_2 : Cond.methodLink RX3 22 Lib.Math.min.name ∈ wsX3_blank := List.mem_of_getElem? (i := 2) rfl
theorem ln_X3_blank_3 : Cond.static Lib.Math.min.name ∈ wsX3_blank := List.mem_of_getElem? (i := 3) rfl
theorem ln_X3_blank_4 : Cond.initialized "java/lang/Math" ∈ wsX3_blank := List.mem_of_getElem? (i := 4) rfl
theorem ln_X3_blank_5 : Cond.code Lib.Math.min.name Lib.Math.min.code 2 (some .int) ∈ wsX3_blank := List.mem_of_getElem? (i := 5) rfl
theorem ln_X3_blank_6 : Cond.methodLink RX3 28 Lib.Math.max.name ∈ wsX3_blank := List.mem_of_getElem? (i := 6) rfl
theorem ln_X3_blank_7 : Cond.static Lib.Math.max.name ∈ wsX3_blank := List.mem_of_getElem? (i := 7) rfl
theorem ln_X3_blank_8 : Cond.code Lib.Math.max.name Lib.Math.max.code 2 (some .int) ∈ wsX3_blank := List.mem_of_getElem? (i := 8) rfl
theorem ln_X3_blank_9 : Cond.fieldLink RX3 9 "BlockCard$Memory" "contents" "[I" ∈ wsX3_blank := List.mem_of_getElem? (i := 9) rfl
theorem ln_X3_blank_10 : Cond.constant RX3 41 (65535) ∈ wsX3_blank := List.mem_of_getElem? (i := 10) rfl
theorem ln_X3_blank_11 : Cond.fieldLink RX3 15 "BlockCard$Memory" "torn" "[Z" ∈ wsX3_blank := List.mem_of_getElem? (i := 11) rfl
set_option maxHeartbeats 4000000 in
set_option maxRecDepth 100000 in
theorem lp_X3_blank_19 {p : Program} {l : Launch} {e : Env} {s : State} {m : MethodId} {args : Array Value} {below : List Frame} {meth : Method} {c : Code} {D : va_G} {A : Nat → Prop} {cI cZ : ClassId} {h h1 h2 h3 : Nat} {x1 : Int32} {x3 : Int32} {x4 : Int32} {F : ob_S} (C : cx_C p c cX3_blank 6 s m args wsX3_blank RX3 D (ct_T cI cZ) A) (hr : meth.sig.returnType = none) (hlk : meth.locks = false)  : ∀ (n : Nat) (x5 : Int32) (u : ob_S) (H : Heap) (locs : List Loc) (ls : Array Slot), 64 - x5.toInt < (n : Int) ∧ 0 < n → 0 ≤ x5.toInt → x4.toInt ≤ 64 → F = k_X3_blank_19 x1 x3 x4 n x5 u → va_P D vwCl (w_3 cI cZ h h1 h2 h3 u) H → va_D A (w_3 cI cZ h h1 h2 h3 u) → va_S A s.heap H locs → lv_has ls 6 [(0, .ref h), (1, .int x1), (3, .int x3), (4, .int x4), (5, .int x5)] → W p l e ({ frames := 1, cells := 0, slots := 0, locals := 24 } : Room) s m args below meth c H locs 0 0 (MQ below (ct_Qv D (ct_T cI cZ) (fun u => (w_3 cI cZ h h1 h2 h3 u)) F A) args s 0 0 A) (F0 m 19 ls []) := by
  have hx := C.1
  have hb := C.2.1
  intro n
  induction n with
  | zero =>
    intro x5 u H locs ls i0 i1 i2
    exact absurd i0.2 (Nat.lt_irrefl 0)
  | succ n ih =>
    intro x5 u H locs ls i0 i1 i2 hF hP hD hS hl
    refine lv_iload hx hb dX3_blank_19 (lv_at hl 4 rfl) ?_
    refine lv_iload hx hb dX3_blank_21 (lv_at hl 3 rfl) ?_
    refine lv_icmp_ge (tgt := 49) hx hb dX3_blank_23 (by decide) (fun c_1 => ?_) (fun c_1 => ?_)
    · refine lv_aload_n hx hb dX3_blank_49 rfl (lv_at hl 0 rfl) ?_
      refine lv_iload_n hx hb dX3_blank_50 rfl (lv_at hl 1 rfl) ?_
      refine lv_iload hx hb dX3_blank_51 (lv_at hl 3 rfl) ?_
      refine kv_v C (c_X3_dropWritten l D cI cZ h h1 h2 h3 u x1 x4 ) (cwV 2 C.2.2.2.2.1 gX3_blank_X3_dropWritten rfl rfl rfl hdX3_dropWritten ⟨Nat.le_of_ble_eq_true rfl, Nat.le_of_ble_eq_true rfl⟩) (ci := 3) (q0 := 0) rfl rfl rfl hP hD hS (sp_self (fun u => (w_3 cI cZ h h1 h2 h3 u)) 4 (fun _ => rfl)) rfl hl.1 rfl (Nat.le_of_ble_eq_true rfl) dX3_blank_53 ⟨Nat.zero_le _, Nat.zero_le _⟩ (fun H locs hP hD hS => ?_)
      exact rt_v C hr hlk hP hD hS (hF.trans ((if_pos c_1).trans rfl)) dX3_blank_56
    · refine lv_aload_n hx hb dX3_blank_26 rfl (lv_at hl 0 rfl) ?_
      refine gt3_0 C hP in_X3_blank_3 ln_X3_blank_9 dX3_blank_27 ?_
      refine lv_iload hx hb dX3_blank_30 (lv_at hl 4 rfl) ?_
      refine lv_ldc (v := 65535) hx hb C.2.2.2.1 (C.2.2.2.2.1 _ ln_X3_blank_10) dX3_blank_32 ?_
      refine as3_0 C hP hD hS (ix_c (n := 64) i1 (by have h := nle_t c_1; omega)) dX3_blank_34 (fun H locs hP hD hS => ?_)
      refine lv_aload_n hx hb dX3_blank_35 rfl (lv_at hl 0 rfl) ?_
      refine gt3_1 C hP in_X3_blank_3 ln_X3_blank_11 dX3_blank_36 ?_
      refine lv_iload hx hb dX3_blank_39 (lv_at hl 4 rfl) ?_
      refine lv_iload_n hx hb dX3_blank_41 rfl (lv_at hl 2 rfl) ?_
      refine as3_1 C hP hD hS (ix_c (n := 64) i1 (by have h := nle_t c_1; omega)) dX3_blank_42 (fun H locs hP hD hS => ?_)
      refine lv_iinc (v := (x5 + 1)) (lv' := [(5, .int _), (0, .ref _), (1, .int _), (3, .int _), (4, .int _)]) hx hb dX3_blank_43 hl (k := 4) rfl rfl (by decide) rfl (fun ls hl => ?_)
      refine lv_goto (tgt := 19) hx hb dX3_blank_46 (by decide) ?_
      exact ih (x5 + 1) (ob_a (ob_a u 0 (Int32.toNatClampNeg x5) 65535) 1 (Int32.toNatClampNeg x5) (vp_nar .boolean x3))  _ _ _ (by have h := nle_t c_1; have h2 := inc_b (n := 64) (x := x5) (by omega) (by decide); omega) (by have h := nle_t c_1; have h2 := inc_b (n := 64) (x := x5) (by omega) (by decide); omega) i2 (hF.trans ((if_neg c_1).trans rfl)) hP hD hS (lv_sub hl [1, 2, 3, 4, 0] rfl)
set_option maxHeartbeats 4000000 in
set_option maxRecDepth 100000 in
theorem c_X3_blank (l : Launch) (D : va_G) (cI cZ : ClassId) (h h1 h2 h3 : Nat) (u : ob_S) (x1 : Int32) (x2 : Int32) (x3 : Int32) (hz : (u.1 4).toInt ≤ 64) : Ct_v l yX3_blank wsX3_blank ({ frames := 1, cells := 0, slots := 0, locals := 24 } : Room) D (ct_T cI cZ) [.ref h, .int x1, .int x2, .int x3] (w_3 cI cZ h h1 h2 h3 u) (fun u => (w_3 cI cZ h h1 h2 h3 u)) (f_X3_blank u x1 x2 x3) := by
  refine en_v (cc := cX3_blank) (maxL := 6) (ret := none) (own := RX3) (by decide +kernel) rfl rfl (Nat.le_of_ble_eq_true rfl) ?_
  intro p e s m args below meth c A ls C hr hlk hP hD hS hl
  have hx := C.1
  have hb := C.2.1
  have hl : lv_has ls 6 [(0, .ref h), (1, .int x1), (2, .int x2), (3, .int x3)] := hl
  refine lv_iload_n hx hb dX3_blank_0 rfl (lv_at hl 1 rfl) ?_
  refine lv_iload_n hx hb dX3_blank_1 rfl (lv_at hl 2 rfl) ?_
  refine lv_iadd hx hb dX3_blank_2 ?_
  refine lv_aload_n hx hb dX3_blank_3 rfl (lv_at hl 0 rfl) ?_
  refine gt3_4 C hP in_X3_blank_3 ln_X3_blank_1 (v := (u.1 4)) rfl dX3_blank_4 ?_
  refine va_mmin hx hb (C.2.2.1.trans hl.1.symm) C.2.2.2.1 (C.2.2.2.2.1 _ ln_X3_blank_2) (C.2.2.2.2.1 _ ln_X3_blank_3) (C.2.2.2.2.1 _ ln_X3_blank_4) (C.2.2.2.2.1 _ ln_X3_blank_5) (Nat.le_of_ble_eq_true rfl) (Nat.le_of_ble_eq_true rfl) (Nat.zero_le _) (Nat.zero_le _) dX3_blank_7 ?_
  refine lv_istore (lv' := [(4, .int _), (0, .ref _), (1, .int _), (2, .int _), (3, .int _)]) hx hb dX3_blank_10 hl (by decide) rfl (fun ls hl => ?_)
  refine lv_iconst (v := 0) hx hb dX3_blank_12 (by decide) ?_
  refine lv_iload_n hx hb dX3_blank_13 rfl (lv_at hl 2 rfl) ?_
  refine va_mmax hx hb (C.2.2.1.trans hl.1.symm) C.2.2.2.1 (C.2.2.2.2.1 _ ln_X3_blank_6) (C.2.2.2.2.1 _ ln_X3_blank_7) (C.2.2.2.2.1 _ ln_X3_blank_4) (C.2.2.2.2.1 _ ln_X3_blank_8) (Nat.le_of_ble_eq_true rfl) (Nat.le_of_ble_eq_true rfl) (Nat.zero_le _) (Nat.zero_le _) dX3_blank_14 ?_
  refine lv_istore (lv' := [(5, .int _), (4, .int _), (0, .ref _), (1, .int _), (2, .int _), (3, .int _)]) hx hb dX3_blank_17 hl (by decide) rfl (fun ls hl => ?_)
  exact lp_X3_blank_19 C hr hlk  65 (if 0 < x1 then x1 else 0) u _ _ _ ⟨by have h := @mx_ge 0 x1; rw [z_t] at h; omega, by decide⟩ (by have h := @mx_ge 0 x1; rw [z_t] at h; exact h) (by have h := @mn_le (x1 + x2) (u.1 4); omega) rfl hP hD hS (lv_sub hl [2, 3, 5, 1, 0] rfl)
set_option maxHeartbeats 4000000 in
set_option maxRecDepth 100000 in
theorem c_X3_tear (l : Launch) (D : va_G) (cI cZ : ClassId) (h h1 h2 h3 : Nat) (u : ob_S) (x1 : Int32) (hz : (u.1 4).toInt ≤ 64) : Ct_v l yX3_tear wsX3_tear ({ frames := 2, cells := 0, slots := 0, locals := 49 } : Room) D (ct_T cI cZ) [.ref h, .int x1] (w_3 cI cZ h h1 h2 h3 u) (fun u => (w_3 cI cZ h h1 h2 h3 u)) (f_X3_tear u x1) := by
  refine en_v (cc := cX3_tear) (maxL := 2) (ret := none) (own := RX3) (by decide +kernel) rfl rfl (Nat.le_of_ble_eq_true rfl) ?_
  intro p e s m args below meth c A ls C hr hlk hP hD hS hl
  have hx := C.1
  have hb := C.2.1
  have hl : lv_has ls 2 [(0, .ref h), (1, .int x1)] := hl
  refine lv_aload_n hx hb dX3_tear_0 rfl (lv_at hl 0 rfl) ?_
  refine lv_iload_n hx hb dX3_tear_1 rfl (lv_at hl 1 rfl) ?_
  refine lv_iconst (v := 1) hx hb dX3_tear_2 (by decide) ?_
  refine lv_iconst (v := 1) hx hb dX3_tear_3 (by decide) ?_
  refine kv_v C (c_X3_blank l D cI cZ h h1 h2 h3 u x1 1 1 hz) (cwV 3 C.2.2.2.2.1 gX3_tear_X3_blank rfl rfl rfl hdX3_blank ⟨Nat.le_of_ble_eq_true rfl, Nat.le_of_ble_eq_true rfl⟩) (ci := 3) (q0 := 0) rfl rfl rfl hP hD hS (sp_self (fun u => (w_3 cI cZ h h1 h2 h3 u)) 4 (fun _ => rfl)) rfl hl.1 rfl (Nat.le_of_ble_eq_true rfl) dX3_tear_4 ⟨Nat.zero_le _, Nat.zero_le _⟩ (fun H locs hP hD hS => ?_)
  exact rt_v C hr hlk hP hD hS rfl dX3_tear_7
theorem ln_X3_tearGroup_1 : Cond.fieldLink RX3 35 "BlockCard$Memory" "groupSize" "I" ∈ wsX3_tearGroup := List.mem_of_getElem? (i := 1) rfl
theorem in_X3_tearGroup_3 : ∀ w ∈ wsX30, w ∈ wsX3_tearGroup := fun w h => List.mem_cons_of_mem _ (List.mem_append_right _ h)
set_option maxHeartbeats 4000000 in
set_option maxRecDepth 100000 in
theorem c_X3_tearGroup (l : Launch) (D : va_G) (cI cZ : ClassId) (h h1 h2 h3 : Nat) (u : ob_S) (x1 : Int32) (hz : (u.1 4).toInt ≤ 64) : Ct_v l yX3_tearGroup wsX3_tearGroup ({ frames := 2, cells := 0, slots := 0, locals := 49 } : Room) D (ct_T cI cZ) [.ref h, .int x1] (w_3 cI cZ h h1 h2 h3 u) (fun u => (w_3 cI cZ h h1 h2 h3 u)) (f_X3_tearGroup u x1) := by
  refine en_v (cc := cX3_tearGroup) (maxL := 2) (ret := none) (own := RX3) (by decide +kernel) rfl rfl (Nat.le_of_ble_eq_true rfl) ?_
  intro p e s m args below meth c A ls C hr hlk hP hD hS hl
  have hx := C.1
  have hb := C.2.1
  have hl : lv_has ls 2 [(0, .ref h), (1, .int x1)] := hl
  refine lv_aload_n hx hb dX3_tearGroup_0 rfl (lv_at hl 0 rfl) ?_
  refine lv_iload_n hx hb dX3_tearGroup_1 rfl (lv_at hl 1 rfl) ?_
  refine lv_aload_n hx hb dX3_tearGroup_2 rfl (lv_at hl 0 rfl) ?_
  refine gt3_5 C hP in_X3_tearGroup_3 ln_X3_tearGroup_1 (v := (u.1 5)) rfl dX3_tearGroup_3 ?_
  refine lv_imul hx hb dX3_tearGroup_6 ?_
  refine lv_aload_n hx hb dX3_tearGroup_7 rfl (lv_at hl 0 rfl) ?_
  refine gt3_5 C hP in_X3_tearGroup_3 ln_X3_tearGroup_1 (v := (u.1 5)) rfl dX3_tearGroup_8 ?_
  refine lv_iconst (v := 1) hx hb dX3_tearGroup_11 (by decide) ?_
  refine kv_v C (c_X3_blank l D cI cZ h h1 h2 h3 u (x1 * (u.1 5)) (u.1 5) 1 hz) (cwV 3 C.2.2.2.2.1 gX3_tearGroup_X3_blank rfl rfl rfl hdX3_blank ⟨Nat.le_of_ble_eq_true rfl, Nat.le_of_ble_eq_true rfl⟩) (ci := 3) (q0 := 0) rfl rfl rfl hP hD hS (sp_self (fun u => (w_3 cI cZ h h1 h2 h3 u)) 4 (fun _ => rfl)) rfl hl.1 rfl (Nat.le_of_ble_eq_true rfl) dX3_tearGroup_12 ⟨Nat.zero_le _, Nat.zero_le _⟩ (fun H locs hP hD hS => ?_)
  exact rt_v C hr hlk hP hD hS rfl dX3_tearGroup_15
theorem ln_X3_has_1 : Cond.fieldLink RX3 31 "BlockCard$Memory" "size" "I" ∈ wsX3_has := List.mem_of_getElem? (i := 1) rfl
theorem in_X3_has_3 : ∀ w ∈ wsX30, w ∈ wsX3_has := fun w h => List.mem_cons_of_mem _ (List.mem_append_right _ h)
set_option maxHeartbeats 4000000 in
set_option maxRecDepth 100000 in
theorem c_X3_has (l : Launch) (D : va_G) (cI cZ : ClassId) (h h1 h2 h3 : Nat) (u : ob_S) (x1 : Int32)  : Ct_p l yX3_has wsX3_has ({ frames := 0, cells := 0, slots := 0, locals := 0 } : Room) D (ct_T cI cZ) [.ref h, .int x1] (w_3 cI cZ h h1 h2 h3 u) (f_X3_has u x1) := by
  refine en_p (cc := cX3_has) (maxL := 2) (ret := (some .boolean)) (own := RX3) (by decide +kernel) rfl rfl (Nat.le_of_ble_eq_true rfl) ?_
  intro p e s m args below meth c A ls C hr hlk hP hD hS hl
  have hx := C.1
  have hb := C.2.1
  have hl : lv_has ls 2 [(0, .ref h), (1, .int x1)] := hl
  refine lv_iload_n hx hb dX3_has_0 rfl (lv_at hl 1 rfl) ?_
  refine lv_if_lt (tgt := 16) hx hb dX3_has_1 (by decide) (fun c_1 => ?_) (fun c_1 => ?_)
  · refine lv_iconst (v := 0) hx hb dX3_has_16 (by decide) ?_
    exact rt_q C hr hlk (Or.inl rfl) hS ((if_pos c_1).trans rfl) dX3_has_17
  · refine lv_iload_n hx hb dX3_has_4 rfl (lv_at hl 1 rfl) ?_
    refine lv_aload_n hx hb dX3_has_5 rfl (lv_at hl 0 rfl) ?_
    refine gt3_4 C hP in_X3_has_3 ln_X3_has_1 (v := (u.1 4)) rfl dX3_has_6 ?_
    refine lv_icmp_ge (tgt := 16) hx hb dX3_has_9 (by decide) (fun c_2 => ?_) (fun c_2 => ?_)
    · refine lv_iconst (v := 0) hx hb dX3_has_16 (by decide) ?_
      exact rt_q C hr hlk (Or.inl rfl) hS ((if_neg c_1).trans ((if_pos c_2).trans rfl)) dX3_has_17
    · refine lv_iconst (v := 1) hx hb dX3_has_12 (by decide) ?_
      refine lv_goto (tgt := 17) hx hb dX3_has_13 (by decide) ?_
      exact rt_q C hr hlk (Or.inr rfl) hS ((if_neg c_1).trans ((if_neg c_2).trans rfl)) dX3_has_17
theorem ln_X3_groupOf_1 : Cond.fieldLink RX3 35 "BlockCard$Memory" "groupSize" "I" ∈ wsX3_groupOf := List.mem_of_getElem? (i := 1) rfl
theorem in_X3_groupOf_3 : ∀ w ∈ wsX30, w ∈ wsX3_groupOf := fun w h => List.mem_cons_of_mem _ (List.mem_append_right _ h)
set_option maxHeartbeats 4000000 in
set_option maxRecDepth 100000 in
theorem c_X3_groupOf (l : Launch) (D : va_G) (cI cZ : ClassId) (h h1 h2 h3 : Nat) (u : ob_S) (x1 : Int32)  : Ct_p l yX3_groupOf wsX3_groupOf ({ frames := 0, cells := 0, slots := 0, locals := 0 } : Room) D (ct_T cI cZ) [.ref h, .int x1] (w_3 cI cZ h h1 h2 h3 u) (f_X3_groupOf u x1) := by
  refine en_p (cc := cX3_groupOf) (maxL := 2) (ret := (some .int)) (own := RX3) (by decide +kernel) rfl rfl (Nat.le_of_ble_eq_true rfl) ?_
  intro p e s m args below meth c A ls C hr hlk hP hD hS hl
  have hx := C.1
  have hb := C.2.1
  have hl : lv_has ls 2 [(0, .ref h), (1, .int x1)] := hl
  refine lv_aload_n hx hb dX3_groupOf_0 rfl (lv_at hl 0 rfl) ?_
  refine gt3_5 C hP in_X3_groupOf_3 ln_X3_groupOf_1 (v := (u.1 5)) rfl dX3_groupOf_1 ?_
  refine lv_if_le (tgt := 16) hx hb dX3_groupOf_4 (by decide) (fun c_1 => ?_) (fun c_1 => ?_)
  · refine lv_iconst (v := 0) hx hb dX3_groupOf_16 (by decide) ?_
    exact rt_p C hr hlk hS ((if_pos c_1).trans rfl) dX3_groupOf_17
  · refine lv_iload_n hx hb dX3_groupOf_7 rfl (lv_at hl 1 rfl) ?_
    refine lv_aload_n hx hb dX3_groupOf_8 rfl (lv_at hl 0 rfl) ?_
    refine gt3_5 C hP in_X3_groupOf_3 ln_X3_groupOf_1 (v := (u.1 5)) rfl dX3_groupOf_9 ?_
    refine lv_idiv hx hb dX3_groupOf_12 (fun h => c_1 (by rw [h]; decide)) ?_
    refine lv_goto (tgt := 17) hx hb dX3_groupOf_13 (by decide) ?_
    exact rt_p C hr hlk hS ((if_neg c_1).trans rfl) dX3_groupOf_17
theorem ln_X3_size_1 : Cond.fieldLink RX3 31 "BlockCard$Memory" "size" "I" ∈ wsX3_size := List.mem_of_getElem? (i := 1) rfl
theorem in_X3_size_3 : ∀ w ∈ wsX30, w ∈ wsX3_size := fun w h => List.mem_cons_of_mem _ (List.mem_append_right _ h)
set_option maxHeartbeats 4000000 in
set_option maxRecDepth 100000 in
theorem c_X3_size (l : Launch) (D : va_G) (cI cZ : ClassId) (h h1 h2 h3 : Nat) (u : ob_S)  : Ct_p l yX3_size wsX3_size ({ frames := 0, cells := 0, slots := 0, locals := 0 } : Room) D (ct_T cI cZ) [.ref h] (w_3 cI cZ h h1 h2 h3 u) (f_X3_size u) := by
  refine en_p (cc := cX3_size) (maxL := 1) (ret := (some .int)) (own := RX3) (by decide +kernel) rfl rfl (Nat.le_of_ble_eq_true rfl) ?_
  intro p e s m args below meth c A ls C hr hlk hP hD hS hl
  have hx := C.1
  have hb := C.2.1
  have hl : lv_has ls 1 [(0, .ref h)] := hl
  refine lv_aload_n hx hb dX3_size_0 rfl (lv_at hl 0 rfl) ?_
  refine gt3_4 C hP in_X3_size_3 ln_X3_size_1 (v := (u.1 4)) rfl dX3_size_1 ?_
  exact rt_p C hr hlk hS rfl dX3_size_4
theorem ln_X3_isTorn_1 : Cond.fieldLink RX3 15 "BlockCard$Memory" "torn" "[Z" ∈ wsX3_isTorn := List.mem_of_getElem? (i := 1) rfl
theorem in_X3_isTorn_3 : ∀ w ∈ wsX30, w ∈ wsX3_isTorn := fun w h => List.mem_cons_of_mem _ (List.mem_append_right _ h)
set_option maxHeartbeats 4000000 in
set_option maxRecDepth 100000 in
theorem c_X3_isTorn (l : Launch) (D : va_G) (cI cZ : ClassId) (h h1 h2 h3 : Nat) (u : ob_S) (x1 : Int32) (hz : (u.1 4).toInt ≤ 64) : Ct_p l yX3_isTorn wsX3_isTorn ({ frames := 1, cells := 0, slots := 0, locals := 21 } : Room) D (ct_T cI cZ) [.ref h, .int x1] (w_3 cI cZ h h1 h2 h3 u) (f_X3_isTorn u x1) := by
  refine en_p (cc := cX3_isTorn) (maxL := 2) (ret := (some .boolean)) (own := RX3) (by decide +kernel) rfl rfl (Nat.le_of_ble_eq_true rfl) ?_
  intro p e s m args below meth c A ls C hr hlk hP hD hS hl
  have hx := C.1
  have hb := C.2.1
  have hl : lv_has ls 2 [(0, .ref h), (1, .int x1)] := hl
  refine lv_aload_n hx hb dX3_isTorn_0 rfl (lv_at hl 0 rfl) ?_
  refine lv_iload_n hx hb dX3_isTorn_1 rfl (lv_at hl 1 rfl) ?_
  refine kv_p C (c_X3_has l D cI cZ h h1 h2 h3 u x1 ) (cwV 1 C.2.2.2.2.1 gX3_isTorn_X3_has rfl rfl rfl hdX3_has ⟨Nat.le_of_ble_eq_true rfl, Nat.le_of_ble_eq_true rfl⟩) (ci := 3) (q0 := 0) rfl rfl rfl hP hD hS (su_self _) rfl hl.1 rfl (Nat.le_of_ble_eq_true rfl) dX3_isTorn_2 ⟨Nat.zero_le _, Nat.zero_le _⟩ (fun H locs hP hS => ?_)
  refine lv_if_eq (tgt := 21) hx hb dX3_isTorn_5 (by decide) (fun c_1 => ?_) (fun c_1 => ?_)
  · refine lv_iconst (v := 0) hx hb dX3_isTorn_21 (by decide) ?_
    exact rt_q C hr hlk (Or.inl rfl) hS ((if_pos c_1).trans rfl) dX3_isTorn_22
  · refine lv_aload_n hx hb dX3_isTorn_8 rfl (lv_at hl 0 rfl) ?_
    refine gt3_1 C hP in_X3_isTorn_3 ln_X3_isTorn_1 dX3_isTorn_9 ?_
    refine lv_iload_n hx hb dX3_isTorn_12 rfl (lv_at hl 1 rfl) ?_
    refine al3_1 C hP (ix_c (n := 64) (has_t c_1).1 (by have h := (has_t c_1).2; omega)) (v := (u.2 1 (Int32.toNatClampNeg x1))) rfl dX3_isTorn_13 ?_
    refine lv_if_eq (tgt := 21) hx hb dX3_isTorn_14 (by decide) (fun c_2 => ?_) (fun c_2 => ?_)
    · refine lv_iconst (v := 0) hx hb dX3_isTorn_21 (by decide) ?_
      exact rt_q C hr hlk (Or.inl rfl) hS ((if_neg c_1).trans ((if_pos c_2).trans rfl)) dX3_isTorn_22
    · refine lv_iconst (v := 1) hx hb dX3_isTorn_17 (by decide) ?_
      refine lv_goto (tgt := 22) hx hb dX3_isTorn_18 (by decide) ?_
      exact rt_q C hr hlk (Or.inr rfl) hS ((if_neg c_1).trans ((if_neg c_2).trans rfl)) dX3_isTorn_22
theorem ln_X3_contentOf_2 : Cond.constant RX3 41 (65535) ∈ wsX3_contentOf := List.mem_of_getElem? (i := 2) rfl
theorem ln_X3_contentOf_1 : Cond.fieldLink RX3 9 "BlockCard$Memory" "contents" "[I" ∈ wsX3_contentOf := List.mem_of_getElem? (i := 1) rfl
theorem in_X3_contentOf_3 : ∀ w ∈ wsX30, w ∈ wsX3_contentOf := fun w h => List.mem_cons_of_mem _ (List.mem_append_right _ h)
set_option maxHeartbeats 4000000 in
set_option maxRecDepth 100000 in
theorem c_X3_contentOf (l : Launch) (D : va_G) (cI cZ : ClassId) (h h1 h2 h3 : Nat) (u : ob_S) (x1 : Int32) (hz : (u.1 4).toInt ≤ 64) : Ct_p l yX3_contentOf wsX3_contentOf ({ frames := 1, cells := 0, slots := 0, locals := 21 } : Room) D (ct_T cI cZ) [.ref h, .int x1] (w_3 cI cZ h h1 h2 h3 u) (f_X3_contentOf u x1) := by
  refine en_p (cc := cX3_contentOf) (maxL := 2) (ret := (some .int)) (own := RX3) (by decide +kernel) rfl rfl (Nat.le_of_ble_eq_true rfl) ?_
  intro p e s m args below meth c A ls C hr hlk hP hD hS hl
  have hx := C.1
  have hb := C.2.1
  have hl : lv_has ls 2 [(0, .ref h), (1, .int x1)] := hl
  refine lv_aload_n hx hb dX3_contentOf_0 rfl (lv_at hl 0 rfl) ?_
  refine lv_iload_n hx hb dX3_contentOf_1 rfl (lv_at hl 1 rfl) ?_
  refine kv_p C (c_X3_has l D cI cZ h h1 h2 h3 u x1 ) (cwV 1 C.2.2.2.2.1 gX3_contentOf_X3_has rfl rfl rfl hdX3_has ⟨Nat.le_of_ble_eq_true rfl, Nat.le_of_ble_eq_true rfl⟩) (ci := 3) (q0 := 0) rfl rfl rfl hP hD hS (su_self _) rfl hl.1 rfl (Nat.le_of_ble_eq_true rfl) dX3_contentOf_2 ⟨Nat.zero_le _, Nat.zero_le _⟩ (fun H locs hP hS => ?_)
  refine lv_if_eq (tgt := 17) hx hb dX3_contentOf_5 (by decide) (fun c_1 => ?_) (fun c_1 => ?_)
  · refine lv_ldc (v := 65535) hx hb C.2.2.2.1 (C.2.2.2.2.1 _ ln_X3_contentOf_2) dX3_contentOf_17 ?_
    exact rt_p C hr hlk hS ((if_pos c_1).trans rfl) dX3_contentOf_19
  · refine lv_aload_n hx hb dX3_contentOf_8 rfl (lv_at hl 0 rfl) ?_
    refine gt3_0 C hP in_X3_contentOf_3 ln_X3_contentOf_1 dX3_contentOf_9 ?_
    refine lv_iload_n hx hb dX3_contentOf_12 rfl (lv_at hl 1 rfl) ?_
    refine al3_0 C hP (ix_c (n := 64) (has_t c_1).1 (by have h := (has_t c_1).2; omega)) (v := (u.2 0 (Int32.toNatClampNeg x1))) rfl dX3_contentOf_13 ?_
    refine lv_goto (tgt := 19) hx hb dX3_contentOf_14 (by decide) ?_
    exact rt_p C hr hlk hS ((if_neg c_1).trans rfl) dX3_contentOf_19
theorem ln_X3_addWrittenFirst_1 : Cond.fieldLink RX3 38 "BlockCard$Memory" "writtenCount" "I" ∈ wsX3_addWrittenFirst := List.mem_of_getElem? (i := 1) rfl
theorem in_X3_addWrittenFirst_3 : ∀ w ∈ wsX30, w ∈ wsX3_addWrittenFirst := fun w h => List.mem_cons_of_mem _ (List.mem_append_right _ h)
theorem ln_X3_addWrittenFirst_2 : Cond.fieldLink RX3 19 "BlockCard$Memory" "written" "[I" ∈ wsX3_addWrittenFirst := List.mem_of_getElem? (i := 2) rfl
set_option maxHeartbeats 4000000 in
set_option maxRecDepth 100000 in
theorem lp_X3_addWrittenFirst_15 {p : Program} {l : Launch} {e : Env} {s : State} {m : MethodId} {args : Array Value} {below : List Frame} {meth : Method} {c : Code} {D : va_G} {A : Nat → Prop} {cI cZ : ClassId} {h h1 h2 h3 : Nat} {x1 : Int32} {F : ob_S} (C : cx_C p c cX3_addWrittenFirst 3 s m args wsX3_addWrittenFirst RX3 D (ct_T cI cZ) A) (hr : meth.sig.returnType = none) (hlk : meth.locks = false)  : ∀ (n : Nat) (x2 : Int32) (u : ob_S) (H : Heap) (locs : List Loc) (ls : Array Slot), x2.toInt < (n : Int) ∧ 0 < n → x2.toInt ≤ 63 → F = k_X3_addWrittenFirst_15 x1 n x2 u → va_P D vwCl (w_3 cI cZ h h1 h2 h3 u) H → va_D A (w_3 cI cZ h h1 h2 h3 u) → va_S A s.heap H locs → lv_has ls 3 [(0, .ref h), (1, .int x1), (2, .int x2)] → W p l e ({ frames := 0, cells := 0, slots := 0, locals := 0 } : Room) s m args below meth c H locs 0 0 (MQ below (ct_Qv D (ct_T cI cZ) (fun u => (w_3 cI cZ h h1 h2 h3 u)) F A) args s 0 0 A) (F0 m 15 ls []) := by
  have hx := C.1
  have hb := C.2.1
  intro n
  induction n with
  | zero =>
    intro x2 u H locs ls i0 i1
    exact absurd i0.2 (Nat.lt_irrefl 0)
  | succ n ih =>
    intro x2 u H locs ls i0 i1 hF hP hD hS hl
    refine lv_iload_n hx hb dX3_addWrittenFirst_15 rfl (lv_at hl 2 rfl) ?_
    refine lv_if_le (tgt := 39) hx hb dX3_addWrittenFirst_16 (by decide) (fun c_2 => ?_) (fun c_2 => ?_)
    · refine lv_aload_n hx hb dX3_addWrittenFirst_39 rfl (lv_at hl 0 rfl) ?_
      refine gt3_2 C hP in_X3_addWrittenFirst_3 ln_X3_addWrittenFirst_2 dX3_addWrittenFirst_40 ?_
      refine lv_iconst (v := 0) hx hb dX3_addWrittenFirst_43 (by decide) ?_
      refine lv_iload_n hx hb dX3_addWrittenFirst_44 rfl (lv_at hl 1 rfl) ?_
      refine as3_2 C hP hD hS (vp_in_iff.mpr (by decide)) dX3_addWrittenFirst_45 (fun H locs hP hD hS => ?_)
      refine lv_aload_n hx hb dX3_addWrittenFirst_46 rfl (lv_at hl 0 rfl) ?_
      refine lv_dup hx hb dX3_addWrittenFirst_47 rfl ?_
      refine gt3_3 C hP in_X3_addWrittenFirst_3 ln_X3_addWrittenFirst_1 (v := (u.1 3)) rfl dX3_addWrittenFirst_48 ?_
      refine lv_iconst (v := 1) hx hb dX3_addWrittenFirst_51 (by decide) ?_
      refine lv_iadd hx hb dX3_addWrittenFirst_52 ?_
      refine pt3_3 C hP hD hS in_X3_addWrittenFirst_3 ln_X3_addWrittenFirst_1 dX3_addWrittenFirst_53 (fun H locs hP hD hS => ?_)
      exact rt_v C hr hlk hP hD hS (hF.trans ((if_pos c_2).trans rfl)) dX3_addWrittenFirst_56
    · refine lv_aload_n hx hb dX3_addWrittenFirst_19 rfl (lv_at hl 0 rfl) ?_
      refine gt3_2 C hP in_X3_addWrittenFirst_3 ln_X3_addWrittenFirst_2 dX3_addWrittenFirst_20 ?_
      refine lv_iload_n hx hb dX3_addWrittenFirst_23 rfl (lv_at hl 2 rfl) ?_
      refine lv_aload_n hx hb dX3_addWrittenFirst_24 rfl (lv_at hl 0 rfl) ?_
      refine gt3_2 C hP in_X3_addWrittenFirst_3 ln_X3_addWrittenFirst_2 dX3_addWrittenFirst_25 ?_
      refine lv_iload_n hx hb dX3_addWrittenFirst_28 rfl (lv_at hl 2 rfl) ?_
      refine lv_iconst (v := 1) hx hb dX3_addWrittenFirst_29 (by decide) ?_
      refine lv_isub hx hb dX3_addWrittenFirst_30 ?_
      refine al3_2 C hP (ix_c (n := 64) (by have h := nlek_ (n := 0) c_2 z_t; have h2 := sub1_t (x := x2) (by omega); omega) (by have h := nlek_ (n := 0) c_2 z_t; have h2 := sub1_t (x := x2) (by omega); omega)) (v := (u.2 2 (Int32.toNatClampNeg (x2 - 1)))) rfl dX3_addWrittenFirst_31 ?_
      refine as3_2 C hP hD hS (ix_c (n := 64) (by have h := nlek_ (n := 0) c_2 z_t; omega) (by omega)) dX3_addWrittenFirst_32 (fun H locs hP hD hS => ?_)
      refine lv_iinc (v := (x2 + (-1))) (lv' := [(2, .int _), (0, .ref _), (1, .int _)]) hx hb dX3_addWrittenFirst_33 hl (k := 2) rfl rfl (by decide) rfl (fun ls hl => ?_)
      refine lv_goto (tgt := 15) hx hb dX3_addWrittenFirst_36 (by decide) ?_
      exact ih (x2 + (-1)) (ob_a u 2 (Int32.toNatClampNeg x2) (u.2 2 (Int32.toNatClampNeg (x2 - 1))))  _ _ _ (by have h := nlek_ (n := 0) c_2 z_t; have h2 := dec_t (x := x2) (by omega); omega) (by have h := nlek_ (n := 0) c_2 z_t; have h2 := dec_t (x := x2) (by omega); omega) (hF.trans ((if_neg c_2).trans rfl)) hP hD hS (lv_sub hl [1, 2, 0] rfl)
set_option maxHeartbeats 4000000 in
set_option maxRecDepth 100000 in
theorem c_X3_addWrittenFirst (l : Launch) (D : va_G) (cI cZ : ClassId) (h h1 h2 h3 : Nat) (u : ob_S) (x1 : Int32)  : Ct_v l yX3_addWrittenFirst wsX3_addWrittenFirst ({ frames := 0, cells := 0, slots := 0, locals := 0 } : Room) D (ct_T cI cZ) [.ref h, .int x1] (w_3 cI cZ h h1 h2 h3 u) (fun u => (w_3 cI cZ h h1 h2 h3 u)) (f_X3_addWrittenFirst u x1) := by
  refine en_v (cc := cX3_addWrittenFirst) (maxL := 3) (ret := none) (own := RX3) (by decide +kernel) rfl rfl (Nat.le_of_ble_eq_true rfl) ?_
  intro p e s m args below meth c A ls C hr hlk hP hD hS hl
  have hx := C.1
  have hb := C.2.1
  have hl : lv_has ls 3 [(0, .ref h), (1, .int x1)] := hl
  refine lv_aload_n hx hb dX3_addWrittenFirst_0 rfl (lv_at hl 0 rfl) ?_
  refine gt3_3 C hP in_X3_addWrittenFirst_3 ln_X3_addWrittenFirst_1 (v := (u.1 3)) rfl dX3_addWrittenFirst_1 ?_
  refine lv_bipush (v := 64) hx hb dX3_addWrittenFirst_4 (by decide) ?_
  refine lv_icmp_lt (tgt := 10) hx hb dX3_addWrittenFirst_6 (by decide) (fun c_1 => ?_) (fun c_1 => ?_)
  · refine lv_aload_n hx hb dX3_addWrittenFirst_10 rfl (lv_at hl 0 rfl) ?_
    refine gt3_3 C hP in_X3_addWrittenFirst_3 ln_X3_addWrittenFirst_1 (v := (u.1 3)) rfl dX3_addWrittenFirst_11 ?_
    refine lv_istore_n (lv' := [(2, .int _), (0, .ref _), (1, .int _)]) hx hb dX3_addWrittenFirst_14 rfl hl (by decide) rfl (fun ls hl => ?_)
    exact lp_X3_addWrittenFirst_15 C hr hlk  64 (u.1 3) u _ _ _ ⟨by have h := lt_k (n := 64) c_1 (by decide); omega, by decide⟩ (by have h := lt_k (n := 64) c_1 (by decide); omega) ((if_pos c_1).trans rfl) hP hD hS (lv_sub hl [1, 2, 0] rfl)
  · exact rt_v C hr hlk hP hD hS ((if_neg c_1).trans rfl) dX3_addWrittenFirst_9
theorem ln_X3_put_1 : Cond.fieldLink RX3 9 "BlockCard$Memory" "contents" "[I" ∈ wsX3_put := List.mem_of_getElem? (i := 1) rfl
theorem in_X3_put_3 : ∀ w ∈ wsX30, w ∈ wsX3_put := fun w h => List.mem_cons_of_mem _ (List.mem_append_right _ h)
theorem ln_X3_put_2 : Cond.fieldLink RX3 15 "BlockCard$Memory" "torn" "[Z" ∈ wsX3_put := List.mem_of_getElem? (i := 2) rfl
set_option maxHeartbeats 4000000 in
set_option maxRecDepth 100000 in
theorem c_X3_put (l : Launch) (D : va_G) (cI cZ : ClassId) (h h1 h2 h3 : Nat) (u : ob_S) (x1 : Int32) (x2 : Int32) (hz : (u.1 4).toInt ≤ 64) : Ct_v l yX3_put wsX3_put ({ frames := 1, cells := 0, slots := 0, locals := 24 } : Room) D (ct_T cI cZ) [.ref h, .int x1, .int x2] (w_3 cI cZ h h1 h2 h3 u) (fun u => (w_3 cI cZ h h1 h2 h3 u)) (f_X3_put u x1 x2) := by
  refine en_v (cc := cX3_put) (maxL := 3) (ret := none) (own := RX3) (by decide +kernel) rfl rfl (Nat.le_of_ble_eq_true rfl) ?_
  intro p e s m args below meth c A ls C hr hlk hP hD hS hl
  have hx := C.1
  have hb := C.2.1
  have hl : lv_has ls 3 [(0, .ref h), (1, .int x1), (2, .int x2)] := hl
  refine lv_aload_n hx hb dX3_put_0 rfl (lv_at hl 0 rfl) ?_
  refine lv_iload_n hx hb dX3_put_1 rfl (lv_at hl 1 rfl) ?_
  refine kv_p C (c_X3_has l D cI cZ h h1 h2 h3 u x1 ) (cwV 1 C.2.2.2.2.1 gX3_put_X3_has rfl rfl rfl hdX3_has ⟨Nat.le_of_ble_eq_true rfl, Nat.le_of_ble_eq_true rfl⟩) (ci := 3) (q0 := 0) rfl rfl rfl hP hD hS (su_self _) rfl hl.1 rfl (Nat.le_of_ble_eq_true rfl) dX3_put_2 ⟨Nat.zero_le _, Nat.zero_le _⟩ (fun H locs hP hS => ?_)
  refine lv_if_ne (tgt := 9) hx hb dX3_put_5 (by decide) (fun c_1 => ?_) (fun c_1 => ?_)
  · refine lv_aload_n hx hb dX3_put_9 rfl (lv_at hl 0 rfl) ?_
    refine gt3_0 C hP in_X3_put_3 ln_X3_put_1 dX3_put_10 ?_
    refine lv_iload_n hx hb dX3_put_13 rfl (lv_at hl 1 rfl) ?_
    refine lv_iload_n hx hb dX3_put_14 rfl (lv_at hl 2 rfl) ?_
    refine as3_0 C hP hD hS (ix_c (n := 64) (has_t c_1).1 (by have h := (has_t c_1).2; omega)) dX3_put_15 (fun H locs hP hD hS => ?_)
    refine lv_aload_n hx hb dX3_put_16 rfl (lv_at hl 0 rfl) ?_
    refine gt3_1 C hP in_X3_put_3 ln_X3_put_2 dX3_put_17 ?_
    refine lv_iload_n hx hb dX3_put_20 rfl (lv_at hl 1 rfl) ?_
    refine lv_iconst (v := 0) hx hb dX3_put_21 (by decide) ?_
    refine as3_1 C hP hD hS (ix_c (n := 64) (has_t c_1).1 (by have h := (has_t c_1).2; omega)) dX3_put_22 (fun H locs hP hD hS => ?_)
    refine lv_aload_n hx hb dX3_put_23 rfl (lv_at hl 0 rfl) ?_
    refine lv_iload_n hx hb dX3_put_24 rfl (lv_at hl 1 rfl) ?_
    refine lv_iload_n hx hb dX3_put_25 rfl (lv_at hl 1 rfl) ?_
    refine lv_iconst (v := 1) hx hb dX3_put_26 (by decide) ?_
    refine lv_iadd hx hb dX3_put_27 ?_
    refine kv_v C (c_X3_dropWritten l D cI cZ h h1 h2 h3 (ob_a (ob_a u 0 (Int32.toNatClampNeg x1) x2) 1 (Int32.toNatClampNeg x1) (vp_nar .boolean 0)) x1 (x1 + 1) ) (cwV 2 C.2.2.2.2.1 gX3_put_X3_dropWritten rfl rfl rfl hdX3_dropWritten ⟨Nat.le_of_ble_eq_true rfl, Nat.le_of_ble_eq_true rfl⟩) (ci := 3) (q0 := 0) rfl rfl rfl hP hD hS (sp_self (fun u => (w_3 cI cZ h h1 h2 h3 u)) 4 (fun _ => rfl)) rfl hl.1 rfl (Nat.le_of_ble_eq_true rfl) dX3_put_28 ⟨Nat.zero_le _, Nat.zero_le _⟩ (fun H locs hP hD hS => ?_)
    refine lv_aload_n hx hb dX3_put_31 rfl (lv_at hl 0 rfl) ?_
    refine lv_iload_n hx hb dX3_put_32 rfl (lv_at hl 1 rfl) ?_
    refine kv_v C (c_X3_addWrittenFirst l D cI cZ h h1 h2 h3 (f_X3_dropWritten (ob_a (ob_a u 0 (Int32.toNatClampNeg x1) x2) 1 (Int32.toNatClampNeg x1) (vp_nar .boolean 0)) x1 (x1 + 1)) x1 ) (cwV 1 C.2.2.2.2.1 gX3_put_X3_addWrittenFirst rfl rfl rfl hdX3_addWrittenFirst ⟨Nat.le_of_ble_eq_true rfl, Nat.le_of_ble_eq_true rfl⟩) (ci := 3) (q0 := 0) rfl rfl rfl hP hD hS (sp_self (fun u => (w_3 cI cZ h h1 h2 h3 u)) 4 (fun _ => rfl)) rfl hl.1 rfl (Nat.le_of_ble_eq_true rfl) dX3_put_33 ⟨Nat.zero_le _, Nat.zero_le _⟩ (fun H locs hP hD hS => ?_)
    exact rt_v C hr hlk hP hD hS ((if_neg c_1).trans rfl) dX3_put_36
  · exact rt_v C hr hlk hP hD hS ((if_pos c_1).trans rfl) dX3_put_8
theorem ln_X3_eraseGroup_1 : Cond.fieldLink RX3 35 "BlockCard$Memory" "groupSize" "I" ∈ wsX3_eraseGroup := List.mem_of_getElem? (i := 1) rfl
theorem in_X3_eraseGroup_3 : ∀ w ∈ wsX30, w ∈ wsX3_eraseGroup := fun w h => List.mem_cons_of_mem _ (List.mem_append_right _ h)
set_option maxHeartbeats 4000000 in
set_option maxRecDepth 100000 in
theorem c_X3_eraseGroup (l : Launch) (D : va_G) (cI cZ : ClassId) (h h1 h2 h3 : Nat) (u : ob_S) (x1 : Int32) (hz : (u.1 4).toInt ≤ 64) : Ct_v l yX3_eraseGroup wsX3_eraseGroup ({ frames := 2, cells := 0, slots := 0, locals := 49 } : Room) D (ct_T cI cZ) [.ref h, .int x1] (w_3 cI cZ h h1 h2 h3 u) (fun u => (w_3 cI cZ h h1 h2 h3 u)) (f_X3_eraseGroup u x1) := by
  refine en_v (cc := cX3_eraseGroup) (maxL := 2) (ret := none) (own := RX3) (by decide +kernel) rfl rfl (Nat.le_of_ble_eq_true rfl) ?_
  intro p e s m args below meth c A ls C hr hlk hP hD hS hl
  have hx := C.1
  have hb := C.2.1
  have hl : lv_has ls 2 [(0, .ref h), (1, .int x1)] := hl
  refine lv_aload_n hx hb dX3_eraseGroup_0 rfl (lv_at hl 0 rfl) ?_
  refine lv_iload_n hx hb dX3_eraseGroup_1 rfl (lv_at hl 1 rfl) ?_
  refine lv_aload_n hx hb dX3_eraseGroup_2 rfl (lv_at hl 0 rfl) ?_
  refine gt3_5 C hP in_X3_eraseGroup_3 ln_X3_eraseGroup_1 (v := (u.1 5)) rfl dX3_eraseGroup_3 ?_
  refine lv_imul hx hb dX3_eraseGroup_6 ?_
  refine lv_aload_n hx hb dX3_eraseGroup_7 rfl (lv_at hl 0 rfl) ?_
  refine gt3_5 C hP in_X3_eraseGroup_3 ln_X3_eraseGroup_1 (v := (u.1 5)) rfl dX3_eraseGroup_8 ?_
  refine lv_iconst (v := 0) hx hb dX3_eraseGroup_11 (by decide) ?_
  refine kv_v C (c_X3_blank l D cI cZ h h1 h2 h3 u (x1 * (u.1 5)) (u.1 5) 0 hz) (cwV 3 C.2.2.2.2.1 gX3_eraseGroup_X3_blank rfl rfl rfl hdX3_blank ⟨Nat.le_of_ble_eq_true rfl, Nat.le_of_ble_eq_true rfl⟩) (ci := 3) (q0 := 0) rfl rfl rfl hP hD hS (sp_self (fun u => (w_3 cI cZ h h1 h2 h3 u)) 4 (fun _ => rfl)) rfl hl.1 rfl (Nat.le_of_ble_eq_true rfl) dX3_eraseGroup_12 ⟨Nat.zero_le _, Nat.zero_le _⟩ (fun H locs hP hD hS => ?_)
  exact rt_v C hr hlk hP hD hS rfl dX3_eraseGroup_15
theorem ln_X3_writtenAt_1 : Cond.fieldLink RX3 38 "BlockCard$Memory" "writtenCount" "I" ∈ wsX3_writtenAt := List.mem_of_getElem? (i := 1) rfl
theorem in_X3_writtenAt_3 : ∀ w ∈ wsX30, w ∈ wsX3_writtenAt := fun w h => List.mem_cons_of_mem _ (List.mem_append_right _ h)
theorem ln_X3_writtenAt_2 : Cond.fieldLink RX3 19 "BlockCard$Memory" "written" "[I" ∈ wsX3_writtenAt := List.mem_of_getElem? (i := 2) rfl
set_option maxHeartbeats 4000000 in
set_option maxRecDepth 100000 in
theorem c_X3_writtenAt (l : Launch) (D : va_G) (cI cZ : ClassId) (h h1 h2 h3 : Nat) (u : ob_S) (x1 : Int32)  : Ct_p l yX3_writtenAt wsX3_writtenAt ({ frames := 0, cells := 0, slots := 0, locals := 0 } : Room) D (ct_T cI cZ) [.ref h, .int x1] (w_3 cI cZ h h1 h2 h3 u) (f_X3_writtenAt u x1) := by
  refine en_p (cc := cX3_writtenAt) (maxL := 2) (ret := (some .int)) (own := RX3) (by decide +kernel) rfl rfl (Nat.le_of_ble_eq_true rfl) ?_
  intro p e s m args below meth c A ls C hr hlk hP hD hS hl
  have hx := C.1
  have hb := C.2.1
  have hl : lv_has ls 2 [(0, .ref h), (1, .int x1)] := hl
  refine lv_iload_n hx hb dX3_writtenAt_0 rfl (lv_at hl 1 rfl) ?_
  refine lv_if_lt (tgt := 27) hx hb dX3_writtenAt_1 (by decide) (fun c_1 => ?_) (fun c_1 => ?_)
  · refine lv_bipush (v := (-4)) hx hb dX3_writtenAt_27 (by decide) ?_
    exact rt_p C hr hlk hS ((if_pos c_1).trans rfl) dX3_writtenAt_29
  · refine lv_iload_n hx hb dX3_writtenAt_4 rfl (lv_at hl 1 rfl) ?_
    refine lv_aload_n hx hb dX3_writtenAt_5 rfl (lv_at hl 0 rfl) ?_
    refine gt3_3 C hP in_X3_writtenAt_3 ln_X3_writtenAt_1 (v := (u.1 3)) rfl dX3_writtenAt_6 ?_
    refine lv_icmp_ge (tgt := 27) hx hb dX3_writtenAt_9 (by decide) (fun c_2 => ?_) (fun c_2 => ?_)
    · refine lv_bipush (v := (-4)) hx hb dX3_writtenAt_27 (by decide) ?_
      exact rt_p C hr hlk hS ((if_neg c_1).trans ((if_pos c_2).trans rfl)) dX3_writtenAt_29
    · refine lv_iload_n hx hb dX3_writtenAt_12 rfl (lv_at hl 1 rfl) ?_
      refine lv_bipush (v := 64) hx hb dX3_writtenAt_13 (by decide) ?_
      refine lv_icmp_ge (tgt := 27) hx hb dX3_writtenAt_15 (by decide) (fun c_3 => ?_) (fun c_3 => ?_)
      · refine lv_bipush (v := (-4)) hx hb dX3_writtenAt_27 (by decide) ?_
        exact rt_p C hr hlk hS ((if_neg c_1).trans ((if_neg c_2).trans ((if_pos c_3).trans rfl))) dX3_writtenAt_29
      · refine lv_aload_n hx hb dX3_writtenAt_18 rfl (lv_at hl 0 rfl) ?_
        refine gt3_2 C hP in_X3_writtenAt_3 ln_X3_writtenAt_2 dX3_writtenAt_19 ?_
        refine lv_iload_n hx hb dX3_writtenAt_22 rfl (lv_at hl 1 rfl) ?_
        refine al3_2 C hP (ix_c (nlt_k c_1 z_t) (nle_k c_3 (by decide))) (v := (u.2 2 (Int32.toNatClampNeg x1))) rfl dX3_writtenAt_23 ?_
        refine lv_goto (tgt := 29) hx hb dX3_writtenAt_24 (by decide) ?_
        exact rt_p C hr hlk hS ((if_neg c_1).trans ((if_neg c_2).trans ((if_neg c_3).trans rfl))) dX3_writtenAt_29
theorem ln_X3_groupSize_1 : Cond.fieldLink RX3 35 "BlockCard$Memory" "groupSize" "I" ∈ wsX3_groupSize := List.mem_of_getElem? (i := 1) rfl
theorem in_X3_groupSize_3 : ∀ w ∈ wsX30, w ∈ wsX3_groupSize := fun w h => List.mem_cons_of_mem _ (List.mem_append_right _ h)
set_option maxHeartbeats 4000000 in
set_option maxRecDepth 100000 in
theorem c_X3_groupSize (l : Launch) (D : va_G) (cI cZ : ClassId) (h h1 h2 h3 : Nat) (u : ob_S)  : Ct_p l yX3_groupSize wsX3_groupSize ({ frames := 0, cells := 0, slots := 0, locals := 0 } : Room) D (ct_T cI cZ) [.ref h] (w_3 cI cZ h h1 h2 h3 u) (f_X3_groupSize u) := by
  refine en_p (cc := cX3_groupSize) (maxL := 1) (ret := (some .int)) (own := RX3) (by decide +kernel) rfl rfl (Nat.le_of_ble_eq_true rfl) ?_
  intro p e s m args below meth c A ls C hr hlk hP hD hS hl
  have hx := C.1
  have hb := C.2.1
  have hl : lv_has ls 1 [(0, .ref h)] := hl
  refine lv_aload_n hx hb dX3_groupSize_0 rfl (lv_at hl 0 rfl) ?_
  refine gt3_5 C hP in_X3_groupSize_3 ln_X3_groupSize_1 (v := (u.1 5)) rfl dX3_groupSize_1 ?_
  exact rt_p C hr hlk hS rfl dX3_groupSize_4
theorem ln_X3_tornBlocks_1 : Cond.fieldLink RX3 31 "BlockCard$Memory" "size" "I" ∈ wsX3_tornBlocks := List.mem_of_getElem? (i := 1) rfl
theorem in_X3_tornBlocks_3 : ∀ w ∈ wsX30, w ∈ wsX3_tornBlocks := fun w h => List.mem_cons_of_mem _ (List.mem_append_right _ h)
theorem ln_X3_tornBlocks_13 : Cond.initialized RX6 ∈ wsX3_tornBlocks := List.mem_of_getElem? (i := 13) rfl
theorem ln_X3_tornBlocks_12 : Cond.static yX6_asNumber ∈ wsX3_tornBlocks := List.mem_of_getElem? (i := 12) rfl
set_option maxHeartbeats 4000000 in
set_option maxRecDepth 100000 in
theorem lp_X3_tornBlocks_4 {p : Program} {l : Launch} {e : Env} {s : State} {m : MethodId} {args : Array Value} {below : List Frame} {meth : Method} {c : Code} {D : va_G} {A : Nat → Prop} {cI cZ : ClassId} {h h1 h2 h3 : Nat} {u : ob_S} {F : Int32} (C : cx_C p c cX3_tornBlocks 3 s m args wsX3_tornBlocks RX3 D (ct_T cI cZ) A) (hr : meth.sig.returnType = some .int) (hlk : meth.locks = false) (hD : va_D (fun _ => True) (w_3 cI cZ h h1 h2 h3 u)) (hz : (u.1 4).toInt ≤ 64) : ∀ (n : Nat) (x1 : Int32) (x2 : Int32) (H : Heap) (locs : List Loc) (ls : Array Slot), 64 - x2.toInt < (n : Int) → 0 ≤ x2.toInt ∧ x2.toInt ≤ 64 → F = k_X3_tornBlocks_4 u n x1 x2 → va_P D vwCl (w_3 cI cZ h h1 h2 h3 u) H → va_S A s.heap H locs → lv_has ls 3 [(0, .ref h), (1, .int x1), (2, .int x2)] → W p l e ({ frames := 2, cells := 0, slots := 0, locals := 42 } : Room) s m args below meth c H locs 0 0 (MQ below (ct_Qp D (ct_T cI cZ) F A) args s 0 0 A) (F0 m 4 ls []) := by
  have hx := C.1
  have hb := C.2.1
  intro n
  induction n with
  | zero =>
    intro x1 x2 H locs ls i0 i1
    exact absurd i0 (by omega)
  | succ n ih =>
    intro x1 x2 H locs ls i0 i1 hF hP hS hl
    refine lv_iload_n hx hb dX3_tornBlocks_4 rfl (lv_at hl 2 rfl) ?_
    refine lv_aload_n hx hb dX3_tornBlocks_5 rfl (lv_at hl 0 rfl) ?_
    refine gt3_4 C hP in_X3_tornBlocks_3 ln_X3_tornBlocks_1 (v := (u.1 4)) rfl dX3_tornBlocks_6 ?_
    refine lv_icmp_ge (tgt := 29) hx hb dX3_tornBlocks_9 (by decide) (fun c_1 => ?_) (fun c_1 => ?_)
    · refine lv_iload_n hx hb dX3_tornBlocks_29 rfl (lv_at hl 1 rfl) ?_
      exact rt_p C hr hlk hS (hF.trans ((if_pos c_1).trans rfl)) dX3_tornBlocks_30
    · refine lv_iload_n hx hb dX3_tornBlocks_12 rfl (lv_at hl 1 rfl) ?_
      refine lv_aload_n hx hb dX3_tornBlocks_13 rfl (lv_at hl 0 rfl) ?_
      refine lv_iload_n hx hb dX3_tornBlocks_14 rfl (lv_at hl 2 rfl) ?_
      refine kv_p C (c_X3_isTorn l D cI cZ h h1 h2 h3 u x2 hz) (cwV 1 C.2.2.2.2.1 gX3_tornBlocks_X3_isTorn rfl rfl rfl hdX3_isTorn ⟨Nat.le_of_ble_eq_true rfl, Nat.le_of_ble_eq_true rfl⟩) (ci := 3) (q0 := 0) rfl rfl rfl hP hD hS (su_self _) rfl hl.1 rfl (Nat.le_of_ble_eq_true rfl) dX3_tornBlocks_15 ⟨Nat.zero_le _, Nat.zero_le _⟩ (fun H locs hP hS => ?_)
      refine ks_pN C (c_X6_asNumber l D cI cZ (f_X3_isTorn u x2) ) (va_cnB 1 C.2.2.2.2.1 gX3_tornBlocks_X6_asNumber_n61 rfl rfl rfl C.2.2.2.2.2.2.2 (C.2.2.2.2.1 _ ln_X3_tornBlocks_13) hdX6_asNumber ⟨Nat.le_of_ble_eq_true rfl, Nat.le_of_ble_eq_true rfl⟩) (C.2.2.2.2.1 _ ln_X3_tornBlocks_12) hP hD hS rfl hl.1 rfl (Nat.le_of_ble_eq_true rfl) dX3_tornBlocks_18 ⟨Nat.zero_le _, Nat.zero_le _⟩ (fun H locs hP hS => ?_)
      refine lv_iadd hx hb dX3_tornBlocks_21 ?_
      refine lv_istore_n (lv' := [(1, .int _), (0, .ref _), (2, .int _)]) hx hb dX3_tornBlocks_22 rfl hl (by decide) rfl (fun ls hl => ?_)
      refine lv_iinc (v := (x2 + 1)) (lv' := [(2, .int _), (1, .int _), (0, .ref _)]) hx hb dX3_tornBlocks_23 hl (k := 2) rfl rfl (by decide) rfl (fun ls hl => ?_)
      refine lv_goto (tgt := 4) hx hb dX3_tornBlocks_26 (by decide) ?_
      exact ih (x1 + (f_X6_asNumber (f_X3_isTorn u x2))) (x2 + 1)   _ _ _ (by have h := nle_t c_1; have h2 := inc_b (n := 64) (x := x2) (by omega) (by decide); omega) (by have h := nle_t c_1; have h2 := inc_b (n := 64) (x := x2) (by omega) (by decide); omega) (hF.trans ((if_neg c_1).trans rfl)) hP hS (lv_sub hl [2, 1, 0] rfl)
set_option maxHeartbeats 4000000 in
set_option maxRecDepth 100000 in
theorem c_X3_tornBlocks (l : Launch) (D : va_G) (cI cZ : ClassId) (h h1 h2 h3 : Nat) (u : ob_S) (hz : (u.1 4).toInt ≤ 64) : Ct_p l yX3_tornBlocks wsX3_tornBlocks ({ frames := 2, cells := 0, slots := 0, locals := 42 } : Room) D (ct_T cI cZ) [.ref h] (w_3 cI cZ h h1 h2 h3 u) (f_X3_tornBlocks u) := by
  refine en_p (cc := cX3_tornBlocks) (maxL := 3) (ret := (some .int)) (own := RX3) (by decide +kernel) rfl rfl (Nat.le_of_ble_eq_true rfl) ?_
  intro p e s m args below meth c A ls C hr hlk hP hD hS hl
  have hx := C.1
  have hb := C.2.1
  have hl : lv_has ls 3 [(0, .ref h)] := hl
  refine lv_iconst (v := 0) hx hb dX3_tornBlocks_0 (by decide) ?_
  refine lv_istore_n (lv' := [(1, .int _), (0, .ref _)]) hx hb dX3_tornBlocks_1 rfl hl (by decide) rfl (fun ls hl => ?_)
  refine lv_iconst (v := 0) hx hb dX3_tornBlocks_2 (by decide) ?_
  refine lv_istore_n (lv' := [(2, .int _), (1, .int _), (0, .ref _)]) hx hb dX3_tornBlocks_3 rfl hl (by decide) rfl (fun ls hl => ?_)
  exact lp_X3_tornBlocks_4 C hr hlk hD hz 65 0 0 _ _ _ (by decide) (by decide) rfl hP hS (lv_sub hl [2, 1, 0] rfl)
theorem ln_X3_filledBlocks_1 : Cond.fieldLink RX3 31 "BlockCard$Memory" "size" "I" ∈ wsX3_filledBlocks := List.mem_of_getElem? (i := 1) rfl
theorem in_X3_filledBlocks_3 : ∀ w ∈ wsX30, w ∈ wsX3_filledBlocks := fun w h => List.mem_cons_of_mem _ (List.mem_append_right _ h)
theorem ln_X3_filledBlocks_2 : Cond.constant RX3 41 (65535) ∈ wsX3_filledBlocks := List.mem_of_getElem? (i := 2) rfl
theorem ln_X3_filledBlocks_14 : Cond.initialized RX6 ∈ wsX3_filledBlocks := List.mem_of_getElem? (i := 14) rfl
theorem ln_X3_filledBlocks_13 : Cond.static yX6_asNumber ∈ wsX3_filledBlocks := List.mem_of_getElem? (i := 13) rfl
set_option maxHeartbeats 4000000 in
set_option maxRecDepth 100000 in
theorem lp_X3_filledBlocks_4 {p : Program} {l : Launch} {e : Env} {s : State} {m : MethodId} {args : Array Value} {below : List Frame} {meth : Method} {c : Code} {D : va_G} {A : Nat → Prop} {cI cZ : ClassId} {h h1 h2 h3 : Nat} {u : ob_S} {F : Int32} (C : cx_C p c cX3_filledBlocks 3 s m args wsX3_filledBlocks RX3 D (ct_T cI cZ) A) (hr : meth.sig.returnType = some .int) (hlk : meth.locks = false) (hD : va_D (fun _ => True) (w_3 cI cZ h h1 h2 h3 u)) (hz : (u.1 4).toInt ≤ 64) : ∀ (n : Nat) (x1 : Int32) (x2 : Int32) (H : Heap) (locs : List Loc) (ls : Array Slot), 64 - x2.toInt < (n : Int) → 0 ≤ x2.toInt ∧ x2.toInt ≤ 64 → F = k_X3_filledBlocks_4 u n x1 x2 → va_P D vwCl (w_3 cI cZ h h1 h2 h3 u) H → va_S A s.heap H locs → lv_has ls 3 [(0, .ref h), (1, .int x1), (2, .int x2)] → W p l e ({ frames := 2, cells := 0, slots := 0, locals := 42 } : Room) s m args below meth c H locs 0 0 (MQ below (ct_Qp D (ct_T cI cZ) F A) args s 0 0 A) (F0 m 4 ls []) := by
  have hx := C.1
  have hb := C.2.1
  intro n
  induction n with
  | zero =>
    intro x1 x2 H locs ls i0 i1
    exact absurd i0 (by omega)
  | succ n ih =>
    intro x1 x2 H locs ls i0 i1 hF hP hS hl
    refine lv_iload_n hx hb dX3_filledBlocks_4 rfl (lv_at hl 2 rfl) ?_
    refine lv_aload_n hx hb dX3_filledBlocks_5 rfl (lv_at hl 0 rfl) ?_
    refine gt3_4 C hP in_X3_filledBlocks_3 ln_X3_filledBlocks_1 (v := (u.1 4)) rfl dX3_filledBlocks_6 ?_
    refine lv_icmp_ge (tgt := 39) hx hb dX3_filledBlocks_9 (by decide) (fun c_1 => ?_) (fun c_1 => ?_)
    · refine lv_iload_n hx hb dX3_filledBlocks_39 rfl (lv_at hl 1 rfl) ?_
      exact rt_p C hr hlk hS (hF.trans ((if_pos c_1).trans rfl)) dX3_filledBlocks_40
    · refine lv_iload_n hx hb dX3_filledBlocks_12 rfl (lv_at hl 1 rfl) ?_
      refine lv_aload_n hx hb dX3_filledBlocks_13 rfl (lv_at hl 0 rfl) ?_
      refine lv_iload_n hx hb dX3_filledBlocks_14 rfl (lv_at hl 2 rfl) ?_
      refine kv_p C (c_X3_contentOf l D cI cZ h h1 h2 h3 u x2 hz) (cwV 1 C.2.2.2.2.1 gX3_filledBlocks_X3_contentOf rfl rfl rfl hdX3_contentOf ⟨Nat.le_of_ble_eq_true rfl, Nat.le_of_ble_eq_true rfl⟩) (ci := 3) (q0 := 0) rfl rfl rfl hP hD hS (su_self _) rfl hl.1 rfl (Nat.le_of_ble_eq_true rfl) dX3_filledBlocks_15 ⟨Nat.zero_le _, Nat.zero_le _⟩ (fun H locs hP hS => ?_)
      refine lv_ldc (v := 65535) hx hb C.2.2.2.1 (C.2.2.2.2.1 _ ln_X3_filledBlocks_2) dX3_filledBlocks_18 ?_
      refine jn_i (g := fun x => F0 m 28 ls (.int x :: [.int x1])) ((if (f_X3_contentOf u x2) = 65535 then 0 else 1)) (fun y_2 ey_2 => ?_) (fun J_2 => ?_)
      · refine ks_pN C (c_X6_asNumber l D cI cZ y_2 ) (va_cnB 1 C.2.2.2.2.1 gX3_filledBlocks_X6_asNumber_n61 rfl rfl rfl C.2.2.2.2.2.2.2 (C.2.2.2.2.1 _ ln_X3_filledBlocks_14) hdX6_asNumber ⟨Nat.le_of_ble_eq_true rfl, Nat.le_of_ble_eq_true rfl⟩) (C.2.2.2.2.1 _ ln_X3_filledBlocks_13) hP hD hS rfl hl.1 rfl (Nat.le_of_ble_eq_true rfl) dX3_filledBlocks_28 ⟨Nat.zero_le _, Nat.zero_le _⟩ (fun H locs hP hS => ?_)
        refine lv_iadd hx hb dX3_filledBlocks_31 ?_
        refine lv_istore_n (lv' := [(1, .int _), (0, .ref _), (2, .int _)]) hx hb dX3_filledBlocks_32 rfl hl (by decide) rfl (fun ls hl => ?_)
        refine lv_iinc (v := (x2 + 1)) (lv' := [(2, .int _), (1, .int _), (0, .ref _)]) hx hb dX3_filledBlocks_33 hl (k := 2) rfl rfl (by decide) rfl (fun ls hl => ?_)
        refine lv_goto (tgt := 4) hx hb dX3_filledBlocks_36 (by decide) ?_
        subst ey_2
        exact ih _ _   _ _ _ (by have h := nle_t c_1; have h2 := inc_b (n := 64) (x := x2) (by omega) (by decide); omega) (by have h := nle_t c_1; have h2 := inc_b (n := 64) (x := x2) (by omega) (by decide); omega) (hF.trans ((if_neg c_1).trans rfl)) hP hS (lv_sub hl [2, 1, 0] rfl)
      · refine lv_icmp_eq (tgt := 27) hx hb dX3_filledBlocks_20 (by decide) (fun c_3 => ?_) (fun c_3 => ?_)
        · refine lv_iconst (v := 0) hx hb dX3_filledBlocks_27 (by decide) ?_
          exact J_2 _ ((if_pos c_3).trans rfl).symm
        · refine lv_iconst (v := 1) hx hb dX3_filledBlocks_23 (by decide) ?_
          refine lv_goto (tgt := 28) hx hb dX3_filledBlocks_24 (by decide) ?_
          exact J_2 _ ((if_neg c_3).trans rfl).symm
set_option maxHeartbeats 4000000 in
set_option maxRecDepth 100000 in
theorem c_X3_filledBlocks (l : Launch) (D : va_G) (cI cZ : ClassId) (h h1 h2 h3 : Nat) (u : ob_S) (hz : (u.1 4).toInt ≤ 64) : Ct_p l yX3_filledBlocks wsX3_filledBlocks ({ frames := 2, cells := 0, slots := 0, locals := 42 } : Room) D (ct_T cI cZ) [.ref h] (w_3 cI cZ h h1 h2 h3 u) (f_X3_filledBlocks u) := by
  refine en_p (cc := cX3_filledBlocks) (maxL := 3) (ret := (some .int)) (own := RX3) (by decide +kernel) rfl rfl (Nat.le_of_ble_eq_true rfl) ?_
  intro p e s m args below meth c A ls C hr hlk hP hD hS hl
  have hx := C.1
  have hb := C.2.1
  have hl : lv_has ls 3 [(0, .ref h)] := hl
  refine lv_iconst (v := 0) hx hb dX3_filledBlocks_0 (by decide) ?_
  refine lv_istore_n (lv' := [(1, .int _), (0, .ref _)]) hx hb dX3_filledBlocks_1 rfl hl (by decide) rfl (fun ls hl => ?_)
  refine lv_iconst (v := 0) hx hb dX3_filledBlocks_2 (by decide) ?_
  refine lv_istore_n (lv' := [(2, .int _), (1, .int _), (0, .ref _)]) hx hb dX3_filledBlocks_3 rfl hl (by decide) rfl (fun ls hl => ?_)
  exact lp_X3_filledBlocks_4 C hr hlk hD hz 65 0 0 _ _ _ (by decide) (by decide) rfl hP hS (lv_sub hl [2, 1, 0] rfl)
