set_option maxHeartbeats 4000000 in
set_option maxRecDepth 100000 in
theorem c_X7_in (l : Launch) (D : va_G) (cI cZ : ClassId)  (x0 : Int64) (x2 : Int64) (x4 : Int64)  : Ct_p l yX7_in wsX7_in ({ frames := 0, cells := 0, slots := 0, locals := 0 } : Room) D (ct_T cI cZ) [.long x0, .long x2, .long x4] [] (f_X7_in x0 x2 x4) := by
  refine en_p (cc := cX7_in) (maxL := 6) (ret := (some .boolean)) (own := RX7) (by decide +kernel) rfl rfl (Nat.le_of_ble_eq_true rfl) ?_
  intro p e s m args below meth c A ls C hr hlk hP hD hS hl
  have hx := C.1
  have hb := C.2.1
  have hl : lv_has ls 6 [(0, .long x0), (2, .long x2), (4, .long x4)] := hl
  refine lv_lload_n hx hb dX7_in_0 rfl (lv_at hl 0 rfl) ?_
  refine lv_lload_n hx hb dX7_in_1 rfl (lv_at hl 1 rfl) ?_
  refine W.lcmp hx hb dX7_in_2 ?_
  refine lv_if_lt (tgt := 17) hx hb dX7_in_3 (by decide) (fun c_1 => ?_) (fun c_1 => ?_)
  · refine lv_iconst (v := 0) hx hb dX7_in_17 (by decide) ?_
    exact rt_q C hr hlk (Or.inl rfl) hS ((if_pos c_1).trans rfl) dX7_in_18
  · refine lv_lload_n hx hb dX7_in_6 rfl (lv_at hl 0 rfl) ?_
    refine lv_lload hx hb dX7_in_7 (lv_at hl 2 rfl) ?_
    refine W.lcmp hx hb dX7_in_9 ?_
    refine lv_if_gt (tgt := 17) hx hb dX7_in_10 (by decide) (fun c_2 => ?_) (fun c_2 => ?_)
    · refine lv_iconst (v := 0) hx hb dX7_in_17 (by decide) ?_
      exact rt_q C hr hlk (Or.inl rfl) hS ((if_neg c_1).trans ((if_pos c_2).trans rfl)) dX7_in_18
    · refine lv_iconst (v := 1) hx hb dX7_in_13 (by decide) ?_
      refine lv_goto (tgt := 18) hx hb dX7_in_14 (by decide) ?_
      exact rt_q C hr hlk (Or.inr rfl) hS ((if_neg c_1).trans ((if_neg c_2).trans rfl)) dX7_in_18
theorem ln_X7_begins_1 : Cond.fieldLink RX7 85 "BlockCardModel" "state" "I" ∈ wsX7_begins := List.mem_of_getElem? (i := 1) rfl
theorem in_X7_begins_7 : ∀ w ∈ wsX70, w ∈ wsX7_begins := fun w h => List.mem_cons_of_mem _ (List.mem_append_right _ h)
theorem ln_X7_begins_2 : Cond.fieldLink RX7 88 "BlockCardModel" "address" "I" ∈ wsX7_begins := List.mem_of_getElem? (i := 2) rfl
theorem ln_X7_begins_3 : Cond.fieldLink RX7 91 "BlockCardModel" "lines" "I" ∈ wsX7_begins := List.mem_of_getElem? (i := 3) rfl
theorem ln_X7_begins_4 : Cond.fieldLink RX7 94 "BlockCardModel" "speed" "I" ∈ wsX7_begins := List.mem_of_getElem? (i := 4) rfl
theorem ln_X7_begins_5 : Cond.fieldLink RX7 97 "BlockCardModel" "point" "I" ∈ wsX7_begins := List.mem_of_getElem? (i := 5) rfl
theorem ln_X7_begins_6 : Cond.fieldLink RX7 71 "BlockCardModel" "wordLong" "I" ∈ wsX7_begins := List.mem_of_getElem? (i := 6) rfl
theorem ln_X7_begins_7 : Cond.fieldLink RX7 100 "BlockCardModel" "isLocked" "Z" ∈ wsX7_begins := List.mem_of_getElem? (i := 7) rfl
theorem ln_X7_begins_8 : Cond.fieldLink RX7 103 "BlockCardModel" "notes" "I" ∈ wsX7_begins := List.mem_of_getElem? (i := 8) rfl
theorem ln_X7_begins_9 : Cond.fieldLink RX7 106 "BlockCardModel" "laterMany" "I" ∈ wsX7_begins := List.mem_of_getElem? (i := 9) rfl
theorem ln_X7_begins_10 : Cond.fieldLink RX7 109 "BlockCardModel" "eraseMany" "I" ∈ wsX7_begins := List.mem_of_getElem? (i := 10) rfl
theorem ln_X7_begins_11 : Cond.fieldLink RX7 112 "BlockCardModel" "eraseTicks" "I" ∈ wsX7_begins := List.mem_of_getElem? (i := 11) rfl
theorem ln_X7_begins_12 : Cond.fieldLink RX7 115 "BlockCardModel" "told" "I" ∈ wsX7_begins := List.mem_of_getElem? (i := 12) rfl
theorem ln_X7_begins_13 : Cond.fieldLink RX7 118 "BlockCardModel" "woken" "I" ∈ wsX7_begins := List.mem_of_getElem? (i := 13) rfl
theorem ln_X7_begins_14 : Cond.fieldLink RX7 121 "BlockCardModel" "begun" "I" ∈ wsX7_begins := List.mem_of_getElem? (i := 14) rfl
theorem ln_X7_begins_15 : Cond.fieldLink RX7 124 "BlockCardModel" "next" "I" ∈ wsX7_begins := List.mem_of_getElem? (i := 15) rfl
theorem ln_X7_begins_16 : Cond.fieldLink RX7 127 "BlockCardModel" "left" "I" ∈ wsX7_begins := List.mem_of_getElem? (i := 16) rfl
theorem ln_X7_begins_17 : Cond.fieldLink RX7 130 "BlockCardModel" "isWrong" "Z" ∈ wsX7_begins := List.mem_of_getElem? (i := 17) rfl
set_option maxHeartbeats 4000000 in
set_option maxRecDepth 100000 in
theorem c_X7_begins (l : Launch) (D : va_G) (cI cZ : ClassId) (ad : Nat → Nat) (u : ob_S)  : Ct_v l yX7_begins wsX7_begins ({ frames := 0, cells := 0, slots := 0, locals := 0 } : Room) D (ct_T cI cZ) [.ref (ad 0)] (w_7 cI ad u) (fun u => (w_7 cI ad u)) (f_X7_begins u) := by
  refine en_v (cc := cX7_begins) (maxL := 1) (ret := none) (own := RX7) (by decide +kernel) rfl rfl (Nat.le_of_ble_eq_true rfl) ?_
  intro p e s m args below meth c A ls C hr hlk hP hD hS hl
  have hx := C.1
  have hb := C.2.1
  have hl : lv_has ls 1 [(0, .ref (ad 0))] := hl
  refine lv_aload_n hx hb dX7_begins_0 rfl (lv_at hl 0 rfl) ?_
  refine lv_iconst (v := 0) hx hb dX7_begins_1 (by decide) ?_
  refine pt7_16 C hP hD hS in_X7_begins_7 ln_X7_begins_1 dX7_begins_2 (fun H locs hP hD hS => ?_)
  refine lv_aload_n hx hb dX7_begins_5 rfl (lv_at hl 0 rfl) ?_
  refine lv_iconst (v := 0) hx hb dX7_begins_6 (by decide) ?_
  refine pt7_17 C hP hD hS in_X7_begins_7 ln_X7_begins_2 dX7_begins_7 (fun H locs hP hD hS => ?_)
  refine lv_aload_n hx hb dX7_begins_10 rfl (lv_at hl 0 rfl) ?_
  refine lv_iconst (v := 0) hx hb dX7_begins_11 (by decide) ?_
  refine pt7_18 C hP hD hS in_X7_begins_7 ln_X7_begins_3 dX7_begins_12 (fun H locs hP hD hS => ?_)
  refine lv_aload_n hx hb dX7_begins_15 rfl (lv_at hl 0 rfl) ?_
  refine lv_iconst (v := 0) hx hb dX7_begins_16 (by decide) ?_
  refine pt7_19 C hP hD hS in_X7_begins_7 ln_X7_begins_4 dX7_begins_17 (fun H locs hP hD hS => ?_)
  refine lv_aload_n hx hb dX7_begins_20 rfl (lv_at hl 0 rfl) ?_
  refine lv_iconst (v := 0) hx hb dX7_begins_21 (by decide) ?_
  refine pt7_20 C hP hD hS in_X7_begins_7 ln_X7_begins_5 dX7_begins_22 (fun H locs hP hD hS => ?_)
  refine lv_aload_n hx hb dX7_begins_25 rfl (lv_at hl 0 rfl) ?_
  refine lv_aload_n hx hb dX7_begins_26 rfl (lv_at hl 0 rfl) ?_
  refine gt7_11 C hP in_X7_begins_7 ln_X7_begins_6 (v := (u.1 11)) rfl dX7_begins_27 ?_
  refine jn_i (g := fun x => F0 m 38 ls (.int x :: [.ref (ad 0)])) ((if (u.1 11) ≤ 0 then 0 else 1)) (fun y_1 ey_1 => ?_) (fun J_1 => ?_)
  · refine pt7_21 C hP hD hS in_X7_begins_7 ln_X7_begins_7 (ey_1 ▸ (bz_ite (Or.inl rfl) (Or.inr rfl))) dX7_begins_38 (fun H locs hP hD hS => ?_)
    refine lv_aload_n hx hb dX7_begins_41 rfl (lv_at hl 0 rfl) ?_
    refine lv_iconst (v := 0) hx hb dX7_begins_42 (by decide) ?_
    refine pt7_22 C hP hD hS in_X7_begins_7 ln_X7_begins_8 dX7_begins_43 (fun H locs hP hD hS => ?_)
    refine lv_aload_n hx hb dX7_begins_46 rfl (lv_at hl 0 rfl) ?_
    refine lv_iconst (v := 0) hx hb dX7_begins_47 (by decide) ?_
    refine pt7_23 C hP hD hS in_X7_begins_7 ln_X7_begins_9 dX7_begins_48 (fun H locs hP hD hS => ?_)
    refine lv_aload_n hx hb dX7_begins_51 rfl (lv_at hl 0 rfl) ?_
    refine lv_iconst (v := 0) hx hb dX7_begins_52 (by decide) ?_
    refine pt7_28 C hP hD hS in_X7_begins_7 ln_X7_begins_10 dX7_begins_53 (fun H locs hP hD hS => ?_)
    refine lv_aload_n hx hb dX7_begins_56 rfl (lv_at hl 0 rfl) ?_
    refine lv_iconst (v := 0) hx hb dX7_begins_57 (by decide) ?_
    refine pt7_29 C hP hD hS in_X7_begins_7 ln_X7_begins_11 dX7_begins_58 (fun H locs hP hD hS => ?_)
    refine lv_aload_n hx hb dX7_begins_61 rfl (lv_at hl 0 rfl) ?_
    refine lv_bipush (v := (-4)) hx hb dX7_begins_62 (by decide) ?_
    refine pt7_30 C hP hD hS in_X7_begins_7 ln_X7_begins_12 dX7_begins_64 (fun H locs hP hD hS => ?_)
    refine lv_aload_n hx hb dX7_begins_67 rfl (lv_at hl 0 rfl) ?_
    refine lv_iconst (v := 0) hx hb dX7_begins_68 (by decide) ?_
    refine pt7_31 C hP hD hS in_X7_begins_7 ln_X7_begins_13 dX7_begins_69 (fun H locs hP hD hS => ?_)
    refine lv_aload_n hx hb dX7_begins_72 rfl (lv_at hl 0 rfl) ?_
    refine lv_iconst (v := 0) hx hb dX7_begins_73 (by decide) ?_
    refine pt7_32 C hP hD hS in_X7_begins_7 ln_X7_begins_14 dX7_begins_74 (fun H locs hP hD hS => ?_)
    refine lv_aload_n hx hb dX7_begins_77 rfl (lv_at hl 0 rfl) ?_
    refine lv_iconst (v := 0) hx hb dX7_begins_78 (by decide) ?_
    refine pt7_35 C hP hD hS in_X7_begins_7 ln_X7_begins_15 dX7_begins_79 (fun H locs hP hD hS => ?_)
    refine lv_aload_n hx hb dX7_begins_82 rfl (lv_at hl 0 rfl) ?_
    refine lv_bipush (v := (-4)) hx hb dX7_begins_83 (by decide) ?_
    refine pt7_36 C hP hD hS in_X7_begins_7 ln_X7_begins_16 dX7_begins_85 (fun H locs hP hD hS => ?_)
    refine lv_aload_n hx hb dX7_begins_88 rfl (lv_at hl 0 rfl) ?_
    refine lv_iconst (v := 0) hx hb dX7_begins_89 (by decide) ?_
    refine pt7_37 C hP hD hS in_X7_begins_7 ln_X7_begins_17 (Or.inl rfl) dX7_begins_90 (fun H locs hP hD hS => ?_)
    subst ey_1
    exact rt_v C hr hlk hP hD hS rfl dX7_begins_93
  · refine lv_if_le (tgt := 37) hx hb dX7_begins_30 (by decide) (fun c_2 => ?_) (fun c_2 => ?_)
    · refine lv_iconst (v := 0) hx hb dX7_begins_37 (by decide) ?_
      exact J_1 _ ((if_pos c_2).trans rfl).symm
    · refine lv_iconst (v := 1) hx hb dX7_begins_33 (by decide) ?_
      refine lv_goto (tgt := 38) hx hb dX7_begins_34 (by decide) ?_
      exact J_1 _ ((if_neg c_2).trans rfl).symm
theorem ln_X7_make_1 : Cond.constantLong RX7 38 (4) ∈ wsX7_make := List.mem_of_getElem? (i := 1) rfl
theorem ln_X7_make_2 : Cond.constantLong RX7 40 (64) ∈ wsX7_make := List.mem_of_getElem? (i := 2) rfl
theorem ln_X7_make_3 : Cond.constantLong RX7 46 (8) ∈ wsX7_make := List.mem_of_getElem? (i := 3) rfl
theorem ln_X7_make_4 : Cond.constantLong RX7 48 (9) ∈ wsX7_make := List.mem_of_getElem? (i := 4) rfl
theorem ln_X7_make_5 : Cond.constantLong RX7 50 (65535) ∈ wsX7_make := List.mem_of_getElem? (i := 5) rfl
theorem ln_X7_make_6 : Cond.fieldLink RX7 52 "BlockCardModel" "blocks" "I" ∈ wsX7_make := List.mem_of_getElem? (i := 6) rfl
theorem in_X7_make_7 : ∀ w ∈ wsX70, w ∈ wsX7_make := fun w h => List.mem_cons_of_mem _ (List.mem_append_right _ h)
theorem ln_X7_make_7 : Cond.fieldLink RX7 56 "BlockCardModel" "size" "I" ∈ wsX7_make := List.mem_of_getElem? (i := 7) rfl
theorem ln_X7_make_8 : Cond.fieldLink RX7 59 "BlockCardModel" "idleness" "I" ∈ wsX7_make := List.mem_of_getElem? (i := 8) rfl
theorem ln_X7_make_9 : Cond.fieldLink RX7 62 "BlockCardModel" "number" "I" ∈ wsX7_make := List.mem_of_getElem? (i := 9) rfl
theorem ln_X7_make_10 : Cond.fieldLink RX7 65 "BlockCardModel" "ticks" "I" ∈ wsX7_make := List.mem_of_getElem? (i := 10) rfl
theorem ln_X7_make_11 : Cond.fieldLink RX7 68 "BlockCardModel" "well" "I" ∈ wsX7_make := List.mem_of_getElem? (i := 11) rfl
theorem ln_X7_make_12 : Cond.fieldLink RX7 71 "BlockCardModel" "wordLong" "I" ∈ wsX7_make := List.mem_of_getElem? (i := 12) rfl
theorem ln_X7_make_13 : Cond.fieldLink RX7 74 "BlockCardModel" "latestMany" "I" ∈ wsX7_make := List.mem_of_getElem? (i := 13) rfl
theorem ln_X7_make_17 : Cond.fieldLink RX7 78 "BlockCardModel" "isOn" "Z" ∈ wsX7_make := List.mem_of_getElem? (i := 17) rfl
theorem ln_X7_make_14 : Cond.fieldLink RX7 13 "BlockCardModel" "content" "[I" ∈ wsX7_make := List.mem_of_getElem? (i := 14) rfl
theorem ln_X7_make_15 : Cond.constant RX7 77 (65535) ∈ wsX7_make := List.mem_of_getElem? (i := 15) rfl
theorem ln_X7_make_16 : Cond.fieldLink RX7 16 "BlockCardModel" "torn" "[I" ∈ wsX7_make := List.mem_of_getElem? (i := 16) rfl
set_option maxHeartbeats 4000000 in
set_option maxRecDepth 100000 in
theorem lp_X7_make_97 {p : Program} {l : Launch} {e : Env} {s : State} {m : MethodId} {args : Array Value} {below : List Frame} {meth : Method} {c : Code} {D : va_G} {A : Nat → Prop} {cI cZ : ClassId} {ad : Nat → Nat} {x1 : Int32} {F : Int32 × ob_S} (C : cx_C p c cX7_make 6 s m args wsX7_make RX7 D (ct_T cI cZ) A) (hr : meth.sig.returnType = some .int) (hlk : meth.locks = false)  : ∀ (n : Nat) (x5 : Int32) (u : ob_S) (H : Heap) (locs : List Loc) (ls : Array Slot), 64 - x5.toInt < (n : Int) → 0 ≤ x5.toInt ∧ x5.toInt ≤ 64 → F = k_X7_make_97 x1 n x5 u → va_P D vwCl (w_7 cI ad u) H → va_D A (w_7 cI ad u) → va_S A s.heap H locs → lv_has ls 6 [(0, .ref (ad 0)), (1, .int x1), (5, .int x5)] → W p l e ({ frames := 1, cells := 0, slots := 0, locals := 25 } : Room) s m args below meth c H locs 0 0 (MQ below (ct_Qi D (ct_T cI cZ) (fun u => (w_7 cI ad u)) F A) args s 0 0 A) (F0 m 97 ls []) := by
  have hx := C.1
  have hb := C.2.1
  intro n
  induction n with
  | zero =>
    intro x5 u H locs ls i0 i1
    exact absurd i0 (by omega)
  | succ n ih =>
    intro x5 u H locs ls i0 i1 hF hP hD hS hl
    refine lv_iload hx hb dX7_make_97 (lv_at hl 2 rfl) ?_
    refine lv_bipush (v := 64) hx hb dX7_make_99 (by decide) ?_
    refine lv_icmp_ge (tgt := 127) hx hb dX7_make_101 (by decide) (fun c_5 => ?_) (fun c_5 => ?_)
    · refine lv_aload_n hx hb dX7_make_127 rfl (lv_at hl 0 rfl) ?_
      refine lv_iconst (v := 0) hx hb dX7_make_128 (by decide) ?_
      refine pt7_15 C hP hD hS in_X7_make_7 ln_X7_make_17 (Or.inl rfl) dX7_make_129 (fun H locs hP hD hS => ?_)
      refine lv_aload_n hx hb dX7_make_132 rfl (lv_at hl 0 rfl) ?_
      refine kv_v C (c_X7_begins l D cI cZ ad (ob_i u 15 0)  ) (cwV 0 C.2.2.2.2.1 gX7_make_X7_begins rfl rfl rfl hdX7_begins ⟨Nat.le_of_ble_eq_true rfl, Nat.le_of_ble_eq_true rfl⟩) (ci := 7) (q0 := 0) rfl rfl rfl hP hD hS (sp_self (fun u => (w_7 cI ad u)) 9 (fun _ => rfl)) rfl hl.1 rfl (Nat.le_of_ble_eq_true rfl) dX7_make_133 ⟨Nat.zero_le _, Nat.zero_le _⟩ (fun H locs hP hD hS => ?_)
      refine lv_iload_n hx hb dX7_make_136 rfl (lv_at hl 1 rfl) ?_
      exact rt_i C hr hlk hP hD hS (hF.trans ((if_pos c_5).trans rfl)) dX7_make_137
    · refine lv_aload_n hx hb dX7_make_104 rfl (lv_at hl 0 rfl) ?_
      refine gt7_9 C hP in_X7_make_7 ln_X7_make_14 dX7_make_105 ?_
      refine lv_iload hx hb dX7_make_108 (lv_at hl 2 rfl) ?_
      refine lv_ldc (v := 65535) hx hb C.2.2.2.1 (C.2.2.2.2.1 _ ln_X7_make_15) dX7_make_110 ?_
      refine as7_9 C hP hD hS (ix_c (n := 64) (by omega) (nle_k c_5 (by decide))) dX7_make_112 (fun H locs hP hD hS => ?_)
      refine lv_aload_n hx hb dX7_make_113 rfl (lv_at hl 0 rfl) ?_
      refine gt7_10 C hP in_X7_make_7 ln_X7_make_16 dX7_make_114 ?_
      refine lv_iload hx hb dX7_make_117 (lv_at hl 2 rfl) ?_
      refine lv_iconst (v := 0) hx hb dX7_make_119 (by decide) ?_
      refine as7_10 C hP hD hS (ix_c (n := 64) (by omega) (nle_k c_5 (by decide))) dX7_make_120 (fun H locs hP hD hS => ?_)
      refine lv_iinc (v := (x5 + 1)) (lv' := [(5, .int _), (0, .ref _), (1, .int _)]) hx hb dX7_make_121 hl (k := 2) rfl rfl (by decide) rfl (fun ls hl => ?_)
      refine lv_goto (tgt := 97) hx hb dX7_make_124 (by decide) ?_
      exact ih (x5 + 1) (ob_a (ob_a u 9 (Int32.toNatClampNeg x5) 65535) 10 (Int32.toNatClampNeg x5) 0)  _ _ _ (by have h := nle_k (n := 64) c_5 (by decide); have h2 := inc_b h (by decide); omega) (by have h := nle_k (n := 64) c_5 (by decide); have h2 := inc_b h (by decide); omega) (hF.trans ((if_neg c_5).trans rfl)) hP hD hS (lv_sub hl [1, 2, 0] rfl)
set_option maxHeartbeats 4000000 in
set_option maxRecDepth 100000 in
theorem c_X7_make (l : Launch) (D : va_G) (cI cZ : ClassId) (ad : Nat → Nat) (u : ob_S) (x1 : Int32) (x2 : Int32) (x3 : Int32) (x4 : Int32)  : Ct_i l yX7_make wsX7_make ({ frames := 1, cells := 0, slots := 0, locals := 25 } : Room) D (ct_T cI cZ) [.ref (ad 0), .int x1, .int x2, .int x3, .int x4] (w_7 cI ad u) (fun u => (w_7 cI ad u)) (f_X7_make u x1 x2 x3 x4) := by
  refine en_i (cc := cX7_make) (maxL := 6) (ret := (some .int)) (own := RX7) (by decide +kernel) rfl rfl (Nat.le_of_ble_eq_true rfl) ?_
  intro p e s m args below meth c A ls C hr hlk hP hD hS hl
  have hx := C.1
  have hb := C.2.1
  have hl : lv_has ls 6 [(0, .ref (ad 0)), (1, .int x1), (2, .int x2), (3, .int x3), (4, .int x4)] := hl
  refine lv_iload_n hx hb dX7_make_0 rfl (lv_at hl 1 rfl) ?_
  refine lv_i2l hx hb dX7_make_1 rfl ?_
  refine lv_ldc2 (v := 4) hx hb C.2.2.2.1 (C.2.2.2.2.1 _ ln_X7_make_1) dX7_make_2 ?_
  refine lv_ldc2 (v := 64) hx hb C.2.2.2.1 (C.2.2.2.2.1 _ ln_X7_make_2) dX7_make_5 ?_
  refine ks_p C (c_X7_in l D cI cZ (Int32.toInt64 x1) 4 64 ) (va_cwS 3 C.2.2.2.2.1 gX7_make_X7_in rfl rfl rfl hdX7_in ⟨Nat.le_of_ble_eq_true rfl, Nat.le_of_ble_eq_true rfl⟩) hP hD hS rfl hl.1 rfl (Nat.le_of_ble_eq_true rfl) dX7_make_8 ⟨Nat.zero_le _, Nat.zero_le _⟩ (fun H locs hP hS => ?_)
  refine lv_if_eq (tgt := 51) hx hb dX7_make_11 (by decide) (fun c_1 => ?_) (fun c_1 => ?_)
  · refine lv_iconst (v := (-1)) hx hb dX7_make_51 (by decide) ?_
    exact rt_i C hr hlk hP hD hS ((if_pos c_1).trans rfl) dX7_make_52
  · refine lv_iload_n hx hb dX7_make_14 rfl (lv_at hl 2 rfl) ?_
    refine lv_i2l hx hb dX7_make_15 rfl ?_
    refine lv_lconst (v := 1) hx hb dX7_make_16 (by decide) ?_
    refine lv_ldc2 (v := 8) hx hb C.2.2.2.1 (C.2.2.2.2.1 _ ln_X7_make_3) dX7_make_17 ?_
    refine ks_p C (c_X7_in l D cI cZ (Int32.toInt64 x2) 1 8 ) (va_cwS 3 C.2.2.2.2.1 gX7_make_X7_in rfl rfl rfl hdX7_in ⟨Nat.le_of_ble_eq_true rfl, Nat.le_of_ble_eq_true rfl⟩) hP hD hS rfl hl.1 rfl (Nat.le_of_ble_eq_true rfl) dX7_make_20 ⟨Nat.zero_le _, Nat.zero_le _⟩ (fun H locs hP hS => ?_)
    refine lv_if_eq (tgt := 51) hx hb dX7_make_23 (by decide) (fun c_2 => ?_) (fun c_2 => ?_)
    · refine lv_iconst (v := (-1)) hx hb dX7_make_51 (by decide) ?_
      exact rt_i C hr hlk hP hD hS ((if_neg c_1).trans ((if_pos c_2).trans rfl)) dX7_make_52
    · refine lv_iload_n hx hb dX7_make_26 rfl (lv_at hl 3 rfl) ?_
      refine lv_i2l hx hb dX7_make_27 rfl ?_
      refine lv_lconst (v := 0) hx hb dX7_make_28 (by decide) ?_
      refine lv_ldc2 (v := 9) hx hb C.2.2.2.1 (C.2.2.2.2.1 _ ln_X7_make_4) dX7_make_29 ?_
      refine ks_p C (c_X7_in l D cI cZ (Int32.toInt64 x3) 0 9 ) (va_cwS 3 C.2.2.2.2.1 gX7_make_X7_in rfl rfl rfl hdX7_in ⟨Nat.le_of_ble_eq_true rfl, Nat.le_of_ble_eq_true rfl⟩) hP hD hS rfl hl.1 rfl (Nat.le_of_ble_eq_true rfl) dX7_make_32 ⟨Nat.zero_le _, Nat.zero_le _⟩ (fun H locs hP hS => ?_)
      refine lv_if_eq (tgt := 51) hx hb dX7_make_35 (by decide) (fun c_3 => ?_) (fun c_3 => ?_)
      · refine lv_iconst (v := (-1)) hx hb dX7_make_51 (by decide) ?_
        exact rt_i C hr hlk hP hD hS ((if_neg c_1).trans ((if_neg c_2).trans ((if_pos c_3).trans rfl))) dX7_make_52
      · refine lv_iload hx hb dX7_make_38 (lv_at hl 4 rfl) ?_
        refine lv_i2l hx hb dX7_make_40 rfl ?_
        refine lv_lconst (v := 0) hx hb dX7_make_41 (by decide) ?_
        refine lv_ldc2 (v := 65535) hx hb C.2.2.2.1 (C.2.2.2.2.1 _ ln_X7_make_5) dX7_make_42 ?_
        refine ks_p C (c_X7_in l D cI cZ (Int32.toInt64 x4) 0 65535 ) (va_cwS 3 C.2.2.2.2.1 gX7_make_X7_in rfl rfl rfl hdX7_in ⟨Nat.le_of_ble_eq_true rfl, Nat.le_of_ble_eq_true rfl⟩) hP hD hS rfl hl.1 rfl (Nat.le_of_ble_eq_true rfl) dX7_make_45 ⟨Nat.zero_le _, Nat.zero_le _⟩ (fun H locs hP hS => ?_)
        refine lv_if_ne (tgt := 53) hx hb dX7_make_48 (by decide) (fun c_4 => ?_) (fun c_4 => ?_)
        · refine lv_aload_n hx hb dX7_make_53 rfl (lv_at hl 0 rfl) ?_
          refine lv_iload_n hx hb dX7_make_54 rfl (lv_at hl 1 rfl) ?_
          refine pt7_3 C hP hD hS in_X7_make_7 ln_X7_make_6 dX7_make_55 (fun H locs hP hD hS => ?_)
          refine lv_aload_n hx hb dX7_make_58 rfl (lv_at hl 0 rfl) ?_
          refine lv_iload_n hx hb dX7_make_59 rfl (lv_at hl 2 rfl) ?_
          refine pt7_4 C hP hD hS in_X7_make_7 ln_X7_make_7 dX7_make_60 (fun H locs hP hD hS => ?_)
          refine lv_aload_n hx hb dX7_make_63 rfl (lv_at hl 0 rfl) ?_
          refine lv_iload_n hx hb dX7_make_64 rfl (lv_at hl 3 rfl) ?_
          refine pt7_5 C hP hD hS in_X7_make_7 ln_X7_make_8 dX7_make_65 (fun H locs hP hD hS => ?_)
          refine lv_aload_n hx hb dX7_make_68 rfl (lv_at hl 0 rfl) ?_
          refine lv_iload hx hb dX7_make_69 (lv_at hl 4 rfl) ?_
          refine pt7_6 C hP hD hS in_X7_make_7 ln_X7_make_9 dX7_make_71 (fun H locs hP hD hS => ?_)
          refine lv_aload_n hx hb dX7_make_74 rfl (lv_at hl 0 rfl) ?_
          refine lv_iconst (v := 0) hx hb dX7_make_75 (by decide) ?_
          refine pt7_7 C hP hD hS in_X7_make_7 ln_X7_make_10 dX7_make_76 (fun H locs hP hD hS => ?_)
          refine lv_aload_n hx hb dX7_make_79 rfl (lv_at hl 0 rfl) ?_
          refine lv_iconst (v := 0) hx hb dX7_make_80 (by decide) ?_
          refine pt7_8 C hP hD hS in_X7_make_7 ln_X7_make_11 dX7_make_81 (fun H locs hP hD hS => ?_)
          refine lv_aload_n hx hb dX7_make_84 rfl (lv_at hl 0 rfl) ?_
          refine lv_iconst (v := 0) hx hb dX7_make_85 (by decide) ?_
          refine pt7_11 C hP hD hS in_X7_make_7 ln_X7_make_12 dX7_make_86 (fun H locs hP hD hS => ?_)
          refine lv_aload_n hx hb dX7_make_89 rfl (lv_at hl 0 rfl) ?_
          refine lv_iconst (v := 0) hx hb dX7_make_90 (by decide) ?_
          refine pt7_13 C hP hD hS in_X7_make_7 ln_X7_make_13 dX7_make_91 (fun H locs hP hD hS => ?_)
          refine lv_iconst (v := 0) hx hb dX7_make_94 (by decide) ?_
          refine lv_istore (lv' := [(5, .int _), (0, .ref _), (1, .int _), (2, .int _), (3, .int _), (4, .int _)]) hx hb dX7_make_95 hl (by decide) rfl (fun ls hl => ?_)
          exact lp_X7_make_97 C hr hlk  65 0 (ob_i (ob_i (ob_i (ob_i (ob_i (ob_i (ob_i (ob_i u 3 x1) 4 x2) 5 x3) 6 x4) 7 0) 8 0) 11 0) 13 0) _ _ _ (by decide) (by decide) ((if_neg c_1).trans ((if_neg c_2).trans ((if_neg c_3).trans ((if_neg c_4).trans rfl)))) hP hD hS (lv_sub hl [1, 2, 0] rfl)
        · refine lv_iconst (v := (-1)) hx hb dX7_make_51 (by decide) ?_
          exact rt_i C hr hlk hP hD hS ((if_neg c_1).trans ((if_neg c_2).trans ((if_neg c_3).trans ((if_pos c_4).trans rfl)))) dX7_make_52
theorem ln_X7_forgets_1 : Cond.fieldLink RX7 74 "BlockCardModel" "latestMany" "I" ∈ wsX7_forgets := List.mem_of_getElem? (i := 1) rfl
theorem in_X7_forgets_7 : ∀ w ∈ wsX70, w ∈ wsX7_forgets := fun w h => List.mem_cons_of_mem _ (List.mem_append_right _ h)
theorem ln_X7_forgets_2 : Cond.fieldLink RX7 22 "BlockCardModel" "latest" "[I" ∈ wsX7_forgets := List.mem_of_getElem? (i := 2) rfl
set_option maxHeartbeats 4000000 in
set_option maxRecDepth 100000 in
theorem lp_X7_forgets_4 {p : Program} {l : Launch} {e : Env} {s : State} {m : MethodId} {args : Array Value} {below : List Frame} {meth : Method} {c : Code} {D : va_G} {A : Nat → Prop} {cI cZ : ClassId} {ad : Nat → Nat} {x1 : Int32} {F : ob_S} (C : cx_C p c cX7_forgets 4 s m args wsX7_forgets RX7 D (ct_T cI cZ) A) (hr : meth.sig.returnType = none) (hlk : meth.locks = false)  : ∀ (n : Nat) (x2 : Int32) (x3 : Int32) (u : ob_S) (H : Heap) (locs : List Loc) (ls : Array Slot), 64 - x3.toInt < (n : Int) → 0 ≤ x2.toInt ∧ x2.toInt ≤ x3.toInt ∧ x3.toInt ≤ 64 → (u.1 13).toInt ≤ 64 → F = k_X7_forgets_4 x1 n x2 x3 u → va_P D vwCl (w_7 cI ad u) H → va_D A (w_7 cI ad u) → va_S A s.heap H locs → lv_has ls 4 [(0, .ref (ad 0)), (1, .int x1), (2, .int x2), (3, .int x3)] → W p l e ({ frames := 0, cells := 0, slots := 0, locals := 0 } : Room) s m args below meth c H locs 0 0 (MQ below (ct_Qv D (ct_T cI cZ) (fun u => (w_7 cI ad u)) F A) args s 0 0 A) (F0 m 4 ls []) := by
  have hx := C.1
  have hb := C.2.1
  intro n
  induction n with
  | zero =>
    intro x2 x3 u H locs ls i0 i1 i2
    exact absurd i0 (by omega)
  | succ n ih =>
    intro x2 x3 u H locs ls i0 i1 i2 hF hP hD hS hl
    refine lv_iload_n hx hb dX7_forgets_4 rfl (lv_at hl 3 rfl) ?_
    refine lv_aload_n hx hb dX7_forgets_5 rfl (lv_at hl 0 rfl) ?_
    refine gt7_13 C hP in_X7_forgets_7 ln_X7_forgets_1 (v := (u.1 13)) rfl dX7_forgets_6 ?_
    refine lv_icmp_ge (tgt := 43) hx hb dX7_forgets_9 (by decide) (fun c_1 => ?_) (fun c_1 => ?_)
    · refine lv_aload_n hx hb dX7_forgets_43 rfl (lv_at hl 0 rfl) ?_
      refine lv_iload_n hx hb dX7_forgets_44 rfl (lv_at hl 2 rfl) ?_
      refine pt7_13 C hP hD hS in_X7_forgets_7 ln_X7_forgets_1 dX7_forgets_45 (fun H locs hP hD hS => ?_)
      exact rt_v C hr hlk hP hD hS (hF.trans ((if_pos c_1).trans rfl)) dX7_forgets_48
    · refine lv_aload_n hx hb dX7_forgets_12 rfl (lv_at hl 0 rfl) ?_
      refine gt7_14 C hP in_X7_forgets_7 ln_X7_forgets_2 dX7_forgets_13 ?_
      refine lv_iload_n hx hb dX7_forgets_16 rfl (lv_at hl 3 rfl) ?_
      refine al7_14 C hP (ix_c (n := 64) (by omega) (by have h := nle_t c_1; omega)) (v := (u.2 14 (Int32.toNatClampNeg x3))) rfl dX7_forgets_17 ?_
      refine lv_iload_n hx hb dX7_forgets_18 rfl (lv_at hl 1 rfl) ?_
      refine lv_icmp_eq (tgt := 37) hx hb dX7_forgets_19 (by decide) (fun c_2 => ?_) (fun c_2 => ?_)
      · refine lv_iinc (v := (x3 + 1)) (lv' := [(3, .int _), (0, .ref _), (1, .int _), (2, .int _)]) hx hb dX7_forgets_37 hl (k := 3) rfl rfl (by decide) rfl (fun ls hl => ?_)
        refine lv_goto (tgt := 4) hx hb dX7_forgets_40 (by decide) ?_
        exact ih x2 (x3 + 1) u  _ _ _ (by have h := nle_t c_1; have h2 := inc_b (n := 64) (x := x3) (by omega) (by decide); have h3 := inc_b (n := 64) (x := x2) (by omega) (by decide); omega) (by have h := nle_t c_1; have h2 := inc_b (n := 64) (x := x3) (by omega) (by decide); have h3 := inc_b (n := 64) (x := x2) (by omega) (by decide); omega) i2 (hF.trans ((if_neg c_1).trans ((if_pos c_2).trans rfl))) hP hD hS (lv_sub hl [1, 2, 3, 0] rfl)
      · refine lv_aload_n hx hb dX7_forgets_22 rfl (lv_at hl 0 rfl) ?_
        refine gt7_14 C hP in_X7_forgets_7 ln_X7_forgets_2 dX7_forgets_23 ?_
        refine lv_iload_n hx hb dX7_forgets_26 rfl (lv_at hl 2 rfl) ?_
        refine lv_aload_n hx hb dX7_forgets_27 rfl (lv_at hl 0 rfl) ?_
        refine gt7_14 C hP in_X7_forgets_7 ln_X7_forgets_2 dX7_forgets_28 ?_
        refine lv_iload_n hx hb dX7_forgets_31 rfl (lv_at hl 3 rfl) ?_
        refine al7_14 C hP (ix_c (n := 64) (by omega) (by have h := nle_t c_1; omega)) (v := (u.2 14 (Int32.toNatClampNeg x3))) rfl dX7_forgets_32 ?_
        refine as7_14 C hP hD hS (ix_c (n := 64) (by omega) (by have h := nle_t c_1; omega)) dX7_forgets_33 (fun H locs hP hD hS => ?_)
        refine lv_iinc (v := (x2 + 1)) (lv' := [(2, .int _), (0, .ref _), (1, .int _), (3, .int _)]) hx hb dX7_forgets_34 hl (k := 2) rfl rfl (by decide) rfl (fun ls hl => ?_)
        refine lv_iinc (v := (x3 + 1)) (lv' := [(3, .int _), (2, .int _), (0, .ref _), (1, .int _)]) hx hb dX7_forgets_37 hl (k := 3) rfl rfl (by decide) rfl (fun ls hl => ?_)
        refine lv_goto (tgt := 4) hx hb dX7_forgets_40 (by decide) ?_
        exact ih (x2 + 1) (x3 + 1) (ob_a u 14 (Int32.toNatClampNeg x2) (u.2 14 (Int32.toNatClampNeg x3)))  _ _ _ (by have h := nle_t c_1; have h2 := inc_b (n := 64) (x := x3) (by omega) (by decide); have h3 := inc_b (n := 64) (x := x2) (by omega) (by decide); omega) (by have h := nle_t c_1; have h2 := inc_b (n := 64) (x := x3) (by omega) (by decide); have h3 := inc_b (n := 64) (x := x2) (by omega) (by decide); omega) i2 (hF.trans ((if_neg c_1).trans ((if_neg c_2).trans rfl))) hP hD hS (lv_sub hl [2, 3, 1, 0] rfl)
set_option maxHeartbeats 4000000 in
set_option maxRecDepth 100000 in
theorem c_X7_forgets (l : Launch) (D : va_G) (cI cZ : ClassId) (ad : Nat → Nat) (u : ob_S) (x1 : Int32) (hL : (u.1 13).toInt ≤ 64) : Ct_v l yX7_forgets wsX7_forgets ({ frames := 0, cells := 0, slots := 0, locals := 0 } : Room) D (ct_T cI cZ) [.ref (ad 0), .int x1] (w_7 cI ad u) (fun u => (w_7 cI ad u)) (f_X7_forgets u x1) := by
  refine en_v (cc := cX7_forgets) (maxL := 4) (ret := none) (own := RX7) (by decide +kernel) rfl rfl (Nat.le_of_ble_eq_true rfl) ?_
  intro p e s m args below meth c A ls C hr hlk hP hD hS hl
  have hx := C.1
  have hb := C.2.1
  have hl : lv_has ls 4 [(0, .ref (ad 0)), (1, .int x1)] := hl
  refine lv_iconst (v := 0) hx hb dX7_forgets_0 (by decide) ?_
  refine lv_istore_n (lv' := [(2, .int _), (0, .ref _), (1, .int _)]) hx hb dX7_forgets_1 rfl hl (by decide) rfl (fun ls hl => ?_)
  refine lv_iconst (v := 0) hx hb dX7_forgets_2 (by decide) ?_
  refine lv_istore_n (lv' := [(3, .int _), (2, .int _), (0, .ref _), (1, .int _)]) hx hb dX7_forgets_3 rfl hl (by decide) rfl (fun ls hl => ?_)
  exact lp_X7_forgets_4 C hr hlk  65 0 0 u _ _ _ (by decide) (by decide) hL rfl hP hD hS (lv_sub hl [2, 3, 1, 0] rfl)
theorem ln_X7_empties_1 : Cond.fieldLink RX7 13 "BlockCardModel" "content" "[I" ∈ wsX7_empties := List.mem_of_getElem? (i := 1) rfl
theorem in_X7_empties_7 : ∀ w ∈ wsX70, w ∈ wsX7_empties := fun w h => List.mem_cons_of_mem _ (List.mem_append_right _ h)
theorem ln_X7_empties_2 : Cond.constant RX7 77 (65535) ∈ wsX7_empties := List.mem_of_getElem? (i := 2) rfl
theorem ln_X7_empties_3 : Cond.fieldLink RX7 16 "BlockCardModel" "torn" "[I" ∈ wsX7_empties := List.mem_of_getElem? (i := 3) rfl
set_option maxHeartbeats 4000000 in
set_option maxRecDepth 100000 in
theorem c_X7_empties (l : Launch) (D : va_G) (cI cZ : ClassId) (ad : Nat → Nat) (u : ob_S) (x1 : Int32) (x2 : Int32) (hi : vp_in x1 64) (hL : (u.1 13).toInt ≤ 64) : Ct_v l yX7_empties wsX7_empties ({ frames := 1, cells := 0, slots := 0, locals := 23 } : Room) D (ct_T cI cZ) [.ref (ad 0), .int x1, .int x2] (w_7 cI ad u) (fun u => (w_7 cI ad u)) (f_X7_empties u x1 x2) := by
  refine en_v (cc := cX7_empties) (maxL := 3) (ret := none) (own := RX7) (by decide +kernel) rfl rfl (Nat.le_of_ble_eq_true rfl) ?_
  intro p e s m args below meth c A ls C hr hlk hP hD hS hl
  have hx := C.1
  have hb := C.2.1
  have hl : lv_has ls 3 [(0, .ref (ad 0)), (1, .int x1), (2, .int x2)] := hl
  refine lv_aload_n hx hb dX7_empties_0 rfl (lv_at hl 0 rfl) ?_
  refine gt7_9 C hP in_X7_empties_7 ln_X7_empties_1 dX7_empties_1 ?_
  refine lv_iload_n hx hb dX7_empties_4 rfl (lv_at hl 1 rfl) ?_
  refine lv_ldc (v := 65535) hx hb C.2.2.2.1 (C.2.2.2.2.1 _ ln_X7_empties_2) dX7_empties_5 ?_
  refine as7_9 C hP hD hS hi dX7_empties_7 (fun H locs hP hD hS => ?_)
  refine lv_aload_n hx hb dX7_empties_8 rfl (lv_at hl 0 rfl) ?_
  refine gt7_10 C hP in_X7_empties_7 ln_X7_empties_3 dX7_empties_9 ?_
  refine lv_iload_n hx hb dX7_empties_12 rfl (lv_at hl 1 rfl) ?_
  refine lv_iload_n hx hb dX7_empties_13 rfl (lv_at hl 2 rfl) ?_
  refine as7_10 C hP hD hS hi dX7_empties_14 (fun H locs hP hD hS => ?_)
  refine lv_aload_n hx hb dX7_empties_15 rfl (lv_at hl 0 rfl) ?_
  refine lv_iload_n hx hb dX7_empties_16 rfl (lv_at hl 1 rfl) ?_
  refine kv_v C (c_X7_forgets l D cI cZ ad (ob_a (ob_a u 9 (Int32.toNatClampNeg x1) 65535) 10 (Int32.toNatClampNeg x1) x2) x1 hL) (cwV 1 C.2.2.2.2.1 gX7_empties_X7_forgets rfl rfl rfl hdX7_forgets ⟨Nat.le_of_ble_eq_true rfl, Nat.le_of_ble_eq_true rfl⟩) (ci := 7) (q0 := 0) rfl rfl rfl hP hD hS (sp_self (fun u => (w_7 cI ad u)) 9 (fun _ => rfl)) rfl hl.1 rfl (Nat.le_of_ble_eq_true rfl) dX7_empties_17 ⟨Nat.zero_le _, Nat.zero_le _⟩ (fun H locs hP hD hS => ?_)
  exact rt_v C hr hlk hP hD hS rfl dX7_empties_20
theorem ln_X7_groupEmpties_1 : Cond.fieldLink RX7 56 "BlockCardModel" "size" "I" ∈ wsX7_groupEmpties := List.mem_of_getElem? (i := 1) rfl
theorem in_X7_groupEmpties_7 : ∀ w ∈ wsX70, w ∈ wsX7_groupEmpties := fun w h => List.mem_cons_of_mem _ (List.mem_append_right _ h)
theorem ln_X7_groupEmpties_2 : Cond.fieldLink RX7 52 "BlockCardModel" "blocks" "I" ∈ wsX7_groupEmpties := List.mem_of_getElem? (i := 2) rfl
set_option maxHeartbeats 4000000 in
set_option maxRecDepth 100000 in
theorem lp_X7_groupEmpties_7 {p : Program} {l : Launch} {e : Env} {s : State} {m : MethodId} {args : Array Value} {below : List Frame} {meth : Method} {c : Code} {D : va_G} {A : Nat → Prop} {cI cZ : ClassId} {ad : Nat → Nat} {x1 : Int32} {x2 : Int32} {F : ob_S} (C : cx_C p c cX7_groupEmpties 4 s m args wsX7_groupEmpties RX7 D (ct_T cI cZ) A) (hr : meth.sig.returnType = none) (hlk : meth.locks = false)  : ∀ (n : Nat) (x3 : Int32) (u : ob_S) (H : Heap) (locs : List Loc) (ls : Array Slot), 64 - x3.toInt < (n : Int) ∧ 0 < n → 0 ≤ x3.toInt → (u.1 3).toInt ≤ 64 → (u.1 13).toInt ≤ 64 → F = k_X7_groupEmpties_7 x1 x2 n x3 u → va_P D vwCl (w_7 cI ad u) H → va_D A (w_7 cI ad u) → va_S A s.heap H locs → lv_has ls 4 [(0, .ref (ad 0)), (1, .int x1), (2, .int x2), (3, .int x3)] → W p l e ({ frames := 2, cells := 0, slots := 0, locals := 45 } : Room) s m args below meth c H locs 0 0 (MQ below (ct_Qv D (ct_T cI cZ) (fun u => (w_7 cI ad u)) F A) args s 0 0 A) (F0 m 7 ls []) := by
  have hx := C.1
  have hb := C.2.1
  intro n
  induction n with
  | zero =>
    intro x3 u H locs ls i0 i1 i2 i3
    exact absurd i0.2 (Nat.lt_irrefl 0)
  | succ n ih =>
    intro x3 u H locs ls i0 i1 i2 i3 hF hP hD hS hl
    refine lv_iload_n hx hb dX7_groupEmpties_7 rfl (lv_at hl 3 rfl) ?_
    refine lv_iload_n hx hb dX7_groupEmpties_8 rfl (lv_at hl 1 rfl) ?_
    refine lv_iconst (v := 1) hx hb dX7_groupEmpties_9 (by decide) ?_
    refine lv_iadd hx hb dX7_groupEmpties_10 ?_
    refine lv_aload_n hx hb dX7_groupEmpties_11 rfl (lv_at hl 0 rfl) ?_
    refine gt7_4 C hP in_X7_groupEmpties_7 ln_X7_groupEmpties_1 (v := (u.1 4)) rfl dX7_groupEmpties_12 ?_
    refine lv_imul hx hb dX7_groupEmpties_15 ?_
    refine lv_icmp_ge (tgt := 39) hx hb dX7_groupEmpties_16 (by decide) (fun c_1 => ?_) (fun c_1 => ?_)
    · exact rt_v C hr hlk hP hD hS (hF.trans ((if_pos c_1).trans rfl)) dX7_groupEmpties_39
    · refine lv_iload_n hx hb dX7_groupEmpties_19 rfl (lv_at hl 3 rfl) ?_
      refine lv_aload_n hx hb dX7_groupEmpties_20 rfl (lv_at hl 0 rfl) ?_
      refine gt7_3 C hP in_X7_groupEmpties_7 ln_X7_groupEmpties_2 (v := (u.1 3)) rfl dX7_groupEmpties_21 ?_
      refine lv_icmp_ge (tgt := 39) hx hb dX7_groupEmpties_24 (by decide) (fun c_2 => ?_) (fun c_2 => ?_)
      · exact rt_v C hr hlk hP hD hS (hF.trans ((if_neg c_1).trans ((if_pos c_2).trans rfl))) dX7_groupEmpties_39
      · refine lv_aload_n hx hb dX7_groupEmpties_27 rfl (lv_at hl 0 rfl) ?_
        refine lv_iload_n hx hb dX7_groupEmpties_28 rfl (lv_at hl 3 rfl) ?_
        refine lv_iload_n hx hb dX7_groupEmpties_29 rfl (lv_at hl 2 rfl) ?_
        refine kv_v C (c_X7_empties l D cI cZ ad u x3 x2 (ix_c (n := 64) i1 (by have h := nle_t c_2; omega)) i3) (cwV 2 C.2.2.2.2.1 gX7_groupEmpties_X7_empties rfl rfl rfl hdX7_empties ⟨Nat.le_of_ble_eq_true rfl, Nat.le_of_ble_eq_true rfl⟩) (ci := 7) (q0 := 0) rfl rfl rfl hP hD hS (sp_self (fun u => (w_7 cI ad u)) 9 (fun _ => rfl)) rfl hl.1 rfl (Nat.le_of_ble_eq_true rfl) dX7_groupEmpties_30 ⟨Nat.zero_le _, Nat.zero_le _⟩ (fun H locs hP hD hS => ?_)
        refine lv_iinc (v := (x3 + 1)) (lv' := [(3, .int _), (0, .ref _), (1, .int _), (2, .int _)]) hx hb dX7_groupEmpties_33 hl (k := 3) rfl rfl (by decide) rfl (fun ls hl => ?_)
        refine lv_goto (tgt := 7) hx hb dX7_groupEmpties_36 (by decide) ?_
        exact ih (x3 + 1) (f_X7_empties u x3 x2)  _ _ _ (by have h := nle_t c_2; have h2 := inc_b (n := 64) (x := x3) (by omega) (by decide); omega) (by have h := nle_t c_2; have h2 := inc_b (n := 64) (x := x3) (by omega) (by decide); omega) (by rw [fe_3]; exact i2) (fe_13 i3) (hF.trans ((if_neg c_1).trans ((if_neg c_2).trans rfl))) hP hD hS (lv_sub hl [1, 2, 3, 0] rfl)
set_option maxHeartbeats 4000000 in
set_option maxRecDepth 100000 in
theorem c_X7_groupEmpties (l : Launch) (D : va_G) (cI cZ : ClassId) (ad : Nat → Nat) (u : ob_S) (x1 : Int32) (x2 : Int32) (hg : 0 ≤ (x1 * u.1 4).toInt) (hB : (u.1 3).toInt ≤ 64) (hL : (u.1 13).toInt ≤ 64) : Ct_v l yX7_groupEmpties wsX7_groupEmpties ({ frames := 2, cells := 0, slots := 0, locals := 45 } : Room) D (ct_T cI cZ) [.ref (ad 0), .int x1, .int x2] (w_7 cI ad u) (fun u => (w_7 cI ad u)) (f_X7_groupEmpties u x1 x2) := by
  refine en_v (cc := cX7_groupEmpties) (maxL := 4) (ret := none) (own := RX7) (by decide +kernel) rfl rfl (Nat.le_of_ble_eq_true rfl) ?_
  intro p e s m args below meth c A ls C hr hlk hP hD hS hl
  have hx := C.1
  have hb := C.2.1
  have hl : lv_has ls 4 [(0, .ref (ad 0)), (1, .int x1), (2, .int x2)] := hl
  refine lv_iload_n hx hb dX7_groupEmpties_0 rfl (lv_at hl 1 rfl) ?_
  refine lv_aload_n hx hb dX7_groupEmpties_1 rfl (lv_at hl 0 rfl) ?_
  refine gt7_4 C hP in_X7_groupEmpties_7 ln_X7_groupEmpties_1 (v := (u.1 4)) rfl dX7_groupEmpties_2 ?_
  refine lv_imul hx hb dX7_groupEmpties_5 ?_
  refine lv_istore_n (lv' := [(3, .int _), (0, .ref _), (1, .int _), (2, .int _)]) hx hb dX7_groupEmpties_6 rfl hl (by decide) rfl (fun ls hl => ?_)
  exact lp_X7_groupEmpties_7 C hr hlk  65 (x1 * (u.1 4)) u _ _ _ ⟨by omega, by decide⟩ hg hB hL rfl hP hD hS (lv_sub hl [1, 2, 3, 0] rfl)
theorem ln_X7_groups_1 : Cond.fieldLink RX7 52 "BlockCardModel" "blocks" "I" ∈ wsX7_groups := List.mem_of_getElem? (i := 1) rfl
theorem in_X7_groups_7 : ∀ w ∈ wsX70, w ∈ wsX7_groups := fun w h => List.mem_cons_of_mem _ (List.mem_append_right _ h)
theorem ln_X7_groups_2 : Cond.fieldLink RX7 56 "BlockCardModel" "size" "I" ∈ wsX7_groups := List.mem_of_getElem? (i := 2) rfl
set_option maxHeartbeats 4000000 in
set_option maxRecDepth 100000 in
theorem c_X7_groups (l : Launch) (D : va_G) (cI cZ : ClassId) (ad : Nat → Nat) (u : ob_S) (hs : ¬ u.1 4 = 0) : Ct_p l yX7_groups wsX7_groups ({ frames := 0, cells := 0, slots := 0, locals := 0 } : Room) D (ct_T cI cZ) [.ref (ad 0)] (w_7 cI ad u) (f_X7_groups u) := by
  refine en_p (cc := cX7_groups) (maxL := 1) (ret := (some .int)) (own := RX7) (by decide +kernel) rfl rfl (Nat.le_of_ble_eq_true rfl) ?_
  intro p e s m args below meth c A ls C hr hlk hP hD hS hl
  have hx := C.1
  have hb := C.2.1
  have hl : lv_has ls 1 [(0, .ref (ad 0))] := hl
  refine lv_aload_n hx hb dX7_groups_0 rfl (lv_at hl 0 rfl) ?_
  refine gt7_3 C hP in_X7_groups_7 ln_X7_groups_1 (v := (u.1 3)) rfl dX7_groups_1 ?_
  refine lv_aload_n hx hb dX7_groups_4 rfl (lv_at hl 0 rfl) ?_
  refine gt7_4 C hP in_X7_groups_7 ln_X7_groups_2 (v := (u.1 4)) rfl dX7_groups_5 ?_
  refine lv_iadd hx hb dX7_groups_8 ?_
  refine lv_iconst (v := 1) hx hb dX7_groups_9 (by decide) ?_
  refine lv_isub hx hb dX7_groups_10 ?_
  refine lv_aload_n hx hb dX7_groups_11 rfl (lv_at hl 0 rfl) ?_
  refine gt7_4 C hP in_X7_groups_7 ln_X7_groups_2 (v := (u.1 4)) rfl dX7_groups_12 ?_
  refine lv_idiv hx hb dX7_groups_15 hs ?_
  exact rt_p C hr hlk hS rfl dX7_groups_16
theorem ln_X7_cuts_1 : Cond.fieldLink RX7 106 "BlockCardModel" "laterMany" "I" ∈ wsX7_cuts := List.mem_of_getElem? (i := 1) rfl
theorem in_X7_cuts_7 : ∀ w ∈ wsX70, w ∈ wsX7_cuts := fun w h => List.mem_cons_of_mem _ (List.mem_append_right _ h)
theorem ln_X7_cuts_4 : Cond.fieldLink RX7 109 "BlockCardModel" "eraseMany" "I" ∈ wsX7_cuts := List.mem_of_getElem? (i := 4) rfl
theorem ln_X7_cuts_5 : Cond.fieldLink RX7 112 "BlockCardModel" "eraseTicks" "I" ∈ wsX7_cuts := List.mem_of_getElem? (i := 5) rfl
theorem ln_X7_cuts_6 : Cond.fieldLink RX7 141 "BlockCardModel" "eraseFrom" "I" ∈ wsX7_cuts := List.mem_of_getElem? (i := 6) rfl
theorem ln_X7_cuts_2 : Cond.fieldLink RX7 31 "BlockCardModel" "laterTicks" "[I" ∈ wsX7_cuts := List.mem_of_getElem? (i := 2) rfl
theorem ln_X7_cuts_3 : Cond.fieldLink RX7 25 "BlockCardModel" "laterBlock" "[I" ∈ wsX7_cuts := List.mem_of_getElem? (i := 3) rfl
set_option maxHeartbeats 4000000 in
set_option maxRecDepth 100000 in
theorem c_X7_cuts (l : Launch) (D : va_G) (cI cZ : ClassId) (ad : Nat → Nat) (u : ob_S) (hA : pm_A u) : Ct_v l yX7_cuts wsX7_cuts ({ frames := 3, cells := 0, slots := 0, locals := 68 } : Room) D (ct_T cI cZ) [.ref (ad 0)] (w_7 cI ad u) (fun u => (w_7 cI ad u)) (f_X7_cuts u) := by
  refine en_v (cc := cX7_cuts) (maxL := 1) (ret := none) (own := RX7) (by decide +kernel) rfl rfl (Nat.le_of_ble_eq_true rfl) ?_
  intro p e s m args below meth c A ls C hr hlk hP hD hS hl
  have hx := C.1
  have hb := C.2.1
  have hl : lv_has ls 1 [(0, .ref (ad 0))] := hl
  refine lv_aload_n hx hb dX7_cuts_0 rfl (lv_at hl 0 rfl) ?_
  refine gt7_23 C hP in_X7_cuts_7 ln_X7_cuts_1 (v := (u.1 23)) rfl dX7_cuts_1 ?_
  refine lv_if_le (tgt := 27) hx hb dX7_cuts_4 (by decide) (fun c_1 => ?_) (fun c_1 => ?_)
  · refine lv_aload_n hx hb dX7_cuts_27 rfl (lv_at hl 0 rfl) ?_
    refine gt7_28 C hP in_X7_cuts_7 ln_X7_cuts_4 (v := (u.1 28)) rfl dX7_cuts_28 ?_
    refine lv_if_le (tgt := 50) hx hb dX7_cuts_31 (by decide) (fun c_2 => ?_) (fun c_2 => ?_)
    · exact rt_v C hr hlk hP hD hS ((if_pos c_1).trans ((if_pos c_2).trans rfl)) dX7_cuts_50
    · refine lv_aload_n hx hb dX7_cuts_34 rfl (lv_at hl 0 rfl) ?_
      refine gt7_29 C hP in_X7_cuts_7 ln_X7_cuts_5 (v := (u.1 29)) rfl dX7_cuts_35 ?_
      refine lv_if_le (tgt := 50) hx hb dX7_cuts_38 (by decide) (fun c_3 => ?_) (fun c_3 => ?_)
      · exact rt_v C hr hlk hP hD hS ((if_pos c_1).trans ((if_neg c_2).trans ((if_pos c_3).trans rfl))) dX7_cuts_50
      · refine lv_aload_n hx hb dX7_cuts_41 rfl (lv_at hl 0 rfl) ?_
        refine lv_aload_n hx hb dX7_cuts_42 rfl (lv_at hl 0 rfl) ?_
        refine gt7_27 C hP in_X7_cuts_7 ln_X7_cuts_6 (v := (u.1 27)) rfl dX7_cuts_43 ?_
        refine lv_iconst (v := 1) hx hb dX7_cuts_46 (by decide) ?_
        refine kv_v C (c_X7_groupEmpties l D cI cZ ad u (u.1 27) 1 (by first | exact hA.2.2.2.1 | exact ge_1 hA.2.2.2.1) (by first | exact hA.2.2.1 | exact ge_2 hA.2.2.1) (by first | exact hA.2.1 | exact fe_13 hA.2.1)) (cwV 2 C.2.2.2.2.1 gX7_cuts_X7_groupEmpties rfl rfl rfl hdX7_groupEmpties ⟨Nat.le_of_ble_eq_true rfl, Nat.le_of_ble_eq_true rfl⟩) (ci := 7) (q0 := 0) rfl rfl rfl hP hD hS (sp_self (fun u => (w_7 cI ad u)) 9 (fun _ => rfl)) rfl hl.1 rfl (Nat.le_of_ble_eq_true rfl) dX7_cuts_47 ⟨Nat.zero_le _, Nat.zero_le _⟩ (fun H locs hP hD hS => ?_)
        exact rt_v C hr hlk hP hD hS ((if_pos c_1).trans ((if_neg c_2).trans ((if_neg c_3).trans rfl))) dX7_cuts_50
  · refine lv_aload_n hx hb dX7_cuts_7 rfl (lv_at hl 0 rfl) ?_
    refine gt7_26 C hP in_X7_cuts_7 ln_X7_cuts_2 dX7_cuts_8 ?_
    refine lv_iconst (v := 0) hx hb dX7_cuts_11 (by decide) ?_
    refine al7_26 C hP (vp_in_iff.mpr (by decide)) (v := (u.2 26 (Int32.toNatClampNeg 0))) rfl dX7_cuts_12 ?_
    refine lv_if_le (tgt := 27) hx hb dX7_cuts_13 (by decide) (fun c_5 => ?_) (fun c_5 => ?_)
    · refine lv_aload_n hx hb dX7_cuts_27 rfl (lv_at hl 0 rfl) ?_
      refine gt7_28 C hP in_X7_cuts_7 ln_X7_cuts_4 (v := (u.1 28)) rfl dX7_cuts_28 ?_
      refine lv_if_le (tgt := 50) hx hb dX7_cuts_31 (by decide) (fun c_6 => ?_) (fun c_6 => ?_)
      · exact rt_v C hr hlk hP hD hS ((if_neg c_1).trans ((if_pos c_5).trans ((if_pos c_6).trans rfl))) dX7_cuts_50
      · refine lv_aload_n hx hb dX7_cuts_34 rfl (lv_at hl 0 rfl) ?_
        refine gt7_29 C hP in_X7_cuts_7 ln_X7_cuts_5 (v := (u.1 29)) rfl dX7_cuts_35 ?_
        refine lv_if_le (tgt := 50) hx hb dX7_cuts_38 (by decide) (fun c_7 => ?_) (fun c_7 => ?_)
        · exact rt_v C hr hlk hP hD hS ((if_neg c_1).trans ((if_pos c_5).trans ((if_neg c_6).trans ((if_pos c_7).trans rfl)))) dX7_cuts_50
        · refine lv_aload_n hx hb dX7_cuts_41 rfl (lv_at hl 0 rfl) ?_
          refine lv_aload_n hx hb dX7_cuts_42 rfl (lv_at hl 0 rfl) ?_
          refine gt7_27 C hP in_X7_cuts_7 ln_X7_cuts_6 (v := (u.1 27)) rfl dX7_cuts_43 ?_
          refine lv_iconst (v := 1) hx hb dX7_cuts_46 (by decide) ?_
          refine kv_v C (c_X7_groupEmpties l D cI cZ ad u (u.1 27) 1 (by first | exact hA.2.2.2.1 | exact ge_1 hA.2.2.2.1) (by first | exact hA.2.2.1 | exact ge_2 hA.2.2.1) (by first | exact hA.2.1 | exact fe_13 hA.2.1)) (cwV 2 C.2.2.2.2.1 gX7_cuts_X7_groupEmpties rfl rfl rfl hdX7_groupEmpties ⟨Nat.le_of_ble_eq_true rfl, Nat.le_of_ble_eq_true rfl⟩) (ci := 7) (q0 := 0) rfl rfl rfl hP hD hS (sp_self (fun u => (w_7 cI ad u)) 9 (fun _ => rfl)) rfl hl.1 rfl (Nat.le_of_ble_eq_true rfl) dX7_cuts_47 ⟨Nat.zero_le _, Nat.zero_le _⟩ (fun H locs hP hD hS => ?_)
          exact rt_v C hr hlk hP hD hS ((if_neg c_1).trans ((if_pos c_5).trans ((if_neg c_6).trans ((if_neg c_7).trans rfl)))) dX7_cuts_50
    · refine lv_aload_n hx hb dX7_cuts_16 rfl (lv_at hl 0 rfl) ?_
      refine lv_aload_n hx hb dX7_cuts_17 rfl (lv_at hl 0 rfl) ?_
      refine gt7_24 C hP in_X7_cuts_7 ln_X7_cuts_3 dX7_cuts_18 ?_
      refine lv_iconst (v := 0) hx hb dX7_cuts_21 (by decide) ?_
      refine al7_24 C hP (vp_in_iff.mpr (by decide)) (v := (u.2 24 (Int32.toNatClampNeg 0))) rfl dX7_cuts_22 ?_
      refine lv_iconst (v := 1) hx hb dX7_cuts_23 (by decide) ?_
      refine kv_v C (c_X7_empties l D cI cZ ad u (u.2 24 (Int32.toNatClampNeg 0)) 1 (hA.1 c_1) hA.2.1) (cwV 2 C.2.2.2.2.1 gX7_cuts_X7_empties rfl rfl rfl hdX7_empties ⟨Nat.le_of_ble_eq_true rfl, Nat.le_of_ble_eq_true rfl⟩) (ci := 7) (q0 := 0) rfl rfl rfl hP hD hS (sp_self (fun u => (w_7 cI ad u)) 9 (fun _ => rfl)) rfl hl.1 rfl (Nat.le_of_ble_eq_true rfl) dX7_cuts_24 ⟨Nat.zero_le _, Nat.zero_le _⟩ (fun H locs hP hD hS => ?_)
      refine lv_aload_n hx hb dX7_cuts_27 rfl (lv_at hl 0 rfl) ?_
      refine gt7_28 C hP in_X7_cuts_7 ln_X7_cuts_4 (v := ((f_X7_empties u (u.2 24 (Int32.toNatClampNeg 0)) 1).1 28)) rfl dX7_cuts_28 ?_
      refine lv_if_le (tgt := 50) hx hb dX7_cuts_31 (by decide) (fun c_10 => ?_) (fun c_10 => ?_)
      · exact rt_v C hr hlk hP hD hS ((if_neg c_1).trans ((if_neg c_5).trans ((if_pos c_10).trans rfl))) dX7_cuts_50
      · refine lv_aload_n hx hb dX7_cuts_34 rfl (lv_at hl 0 rfl) ?_
        refine gt7_29 C hP in_X7_cuts_7 ln_X7_cuts_5 (v := ((f_X7_empties u (u.2 24 (Int32.toNatClampNeg 0)) 1).1 29)) rfl dX7_cuts_35 ?_
        refine lv_if_le (tgt := 50) hx hb dX7_cuts_38 (by decide) (fun c_11 => ?_) (fun c_11 => ?_)
        · exact rt_v C hr hlk hP hD hS ((if_neg c_1).trans ((if_neg c_5).trans ((if_neg c_10).trans ((if_pos c_11).trans rfl)))) dX7_cuts_50
        · refine lv_aload_n hx hb dX7_cuts_41 rfl (lv_at hl 0 rfl) ?_
          refine lv_aload_n hx hb dX7_cuts_42 rfl (lv_at hl 0 rfl) ?_
          refine gt7_27 C hP in_X7_cuts_7 ln_X7_cuts_6 (v := ((f_X7_empties u (u.2 24 (Int32.toNatClampNeg 0)) 1).1 27)) rfl dX7_cuts_43 ?_
          refine lv_iconst (v := 1) hx hb dX7_cuts_46 (by decide) ?_
          refine kv_v C (c_X7_groupEmpties l D cI cZ ad (f_X7_empties u (u.2 24 (Int32.toNatClampNeg 0)) 1) ((f_X7_empties u (u.2 24 (Int32.toNatClampNeg 0)) 1).1 27) 1 (by first | exact hA.2.2.2.1 | exact ge_1 hA.2.2.2.1) (by first | exact hA.2.2.1 | exact ge_2 hA.2.2.1) (by first | exact hA.2.1 | exact fe_13 hA.2.1)) (cwV 2 C.2.2.2.2.1 gX7_cuts_X7_groupEmpties rfl rfl rfl hdX7_groupEmpties ⟨Nat.le_of_ble_eq_true rfl, Nat.le_of_ble_eq_true rfl⟩) (ci := 7) (q0 := 0) rfl rfl rfl hP hD hS (sp_self (fun u => (w_7 cI ad u)) 9 (fun _ => rfl)) rfl hl.1 rfl (Nat.le_of_ble_eq_true rfl) dX7_cuts_47 ⟨Nat.zero_le _, Nat.zero_le _⟩ (fun H locs hP hD hS => ?_)
          exact rt_v C hr hlk hP hD hS ((if_neg c_1).trans ((if_neg c_5).trans ((if_neg c_10).trans ((if_neg c_11).trans rfl)))) dX7_cuts_50
theorem ln_X7_warm_1 : Cond.constantLong RX7 150 (15) ∈ wsX7_warm := List.mem_of_getElem? (i := 1) rfl
theorem ln_X7_warm_2 : Cond.fieldLink RX7 152 "BlockCardModel" "heat" "I" ∈ wsX7_warm := List.mem_of_getElem? (i := 2) rfl
theorem in_X7_warm_7 : ∀ w ∈ wsX70, w ∈ wsX7_warm := fun w h => List.mem_cons_of_mem _ (List.mem_append_right _ h)
set_option maxHeartbeats 4000000 in
set_option maxRecDepth 100000 in
theorem c_X7_warm (l : Launch) (D : va_G) (cI cZ : ClassId) (ad : Nat → Nat) (u : ob_S) (x1 : Int32)  : Ct_i l yX7_warm wsX7_warm ({ frames := 1, cells := 0, slots := 0, locals := 25 } : Room) D (ct_T cI cZ) [.ref (ad 0), .int x1] (w_7 cI ad u) (fun u => (w_7 cI ad u)) (f_X7_warm u x1) := by
  refine en_i (cc := cX7_warm) (maxL := 3) (ret := (some .int)) (own := RX7) (by decide +kernel) rfl rfl (Nat.le_of_ble_eq_true rfl) ?_
  intro p e s m args below meth c A ls C hr hlk hP hD hS hl
  have hx := C.1
  have hb := C.2.1
  have hl : lv_has ls 3 [(0, .ref (ad 0)), (1, .int x1)] := hl
  refine lv_iload_n hx hb dX7_warm_0 rfl (lv_at hl 1 rfl) ?_
  refine lv_i2l hx hb dX7_warm_1 rfl ?_
  refine lv_lconst (v := 0) hx hb dX7_warm_2 (by decide) ?_
  refine lv_ldc2 (v := 15) hx hb C.2.2.2.1 (C.2.2.2.2.1 _ ln_X7_warm_1) dX7_warm_3 ?_
  refine ks_p C (c_X7_in l D cI cZ (Int32.toInt64 x1) 0 15 ) (va_cwS 3 C.2.2.2.2.1 gX7_warm_X7_in rfl rfl rfl hdX7_in ⟨Nat.le_of_ble_eq_true rfl, Nat.le_of_ble_eq_true rfl⟩) hP hD hS rfl hl.1 rfl (Nat.le_of_ble_eq_true rfl) dX7_warm_6 ⟨Nat.zero_le _, Nat.zero_le _⟩ (fun H locs hP hS => ?_)
  refine lv_if_ne (tgt := 14) hx hb dX7_warm_9 (by decide) (fun c_1 => ?_) (fun c_1 => ?_)
  · refine lv_aload_n hx hb dX7_warm_14 rfl (lv_at hl 0 rfl) ?_
    refine gt7_2 C hP in_X7_warm_7 ln_X7_warm_2 (v := (u.1 2)) rfl dX7_warm_15 ?_
    refine lv_istore_n (lv' := [(2, .int _), (0, .ref _), (1, .int _)]) hx hb dX7_warm_18 rfl hl (by decide) rfl (fun ls hl => ?_)
    refine lv_aload_n hx hb dX7_warm_19 rfl (lv_at hl 1 rfl) ?_
    refine lv_iload_n hx hb dX7_warm_20 rfl (lv_at hl 2 rfl) ?_
    refine pt7_2 C hP hD hS in_X7_warm_7 ln_X7_warm_2 dX7_warm_21 (fun H locs hP hD hS => ?_)
    refine lv_iload_n hx hb dX7_warm_24 rfl (lv_at hl 0 rfl) ?_
    exact rt_i C hr hlk hP hD hS ((if_neg c_1).trans rfl) dX7_warm_25
  · refine lv_iconst (v := (-1)) hx hb dX7_warm_12 (by decide) ?_
    exact rt_i C hr hlk hP hD hS ((if_pos c_1).trans rfl) dX7_warm_13
theorem ln_X7_write_1 : Cond.constantLong RX7 155 (32) ∈ wsX7_write := List.mem_of_getElem? (i := 1) rfl
theorem ln_X7_write_2 : Cond.constantLong RX7 157 (126) ∈ wsX7_write := List.mem_of_getElem? (i := 2) rfl
theorem ln_X7_write_3 : Cond.fieldLink RX7 159 "BlockCardModel" "length" "I" ∈ wsX7_write := List.mem_of_getElem? (i := 3) rfl
theorem in_X7_write_7 : ∀ w ∈ wsX70, w ∈ wsX7_write := fun w h => List.mem_cons_of_mem _ (List.mem_append_right _ h)
theorem ln_X7_write_4 : Cond.fieldLink RX7 7 "BlockCardModel" "text" "[I" ∈ wsX7_write := List.mem_of_getElem? (i := 4) rfl
set_option maxHeartbeats 4000000 in
set_option maxRecDepth 100000 in
theorem c_X7_write (l : Launch) (D : va_G) (cI cZ : ClassId) (ad : Nat → Nat) (u : ob_S) (x1 : Int32) (hlen : 0 ≤ (u.1 0).toInt ∧ (u.1 0).toInt ≤ 200) : Ct_i l yX7_write wsX7_write ({ frames := 1, cells := 0, slots := 0, locals := 25 } : Room) D (ct_T cI cZ) [.ref (ad 0), .int x1] (w_7 cI ad u) (fun u => (w_7 cI ad u)) (f_X7_write u x1) := by
  refine en_i (cc := cX7_write) (maxL := 2) (ret := (some .int)) (own := RX7) (by decide +kernel) rfl rfl (Nat.le_of_ble_eq_true rfl) ?_
  intro p e s m args below meth c A ls C hr hlk hP hD hS hl
  have hx := C.1
  have hb := C.2.1
  have hl : lv_has ls 2 [(0, .ref (ad 0)), (1, .int x1)] := hl
  refine lv_iload_n hx hb dX7_write_0 rfl (lv_at hl 1 rfl) ?_
  refine lv_i2l hx hb dX7_write_1 rfl ?_
  refine lv_ldc2 (v := 32) hx hb C.2.2.2.1 (C.2.2.2.2.1 _ ln_X7_write_1) dX7_write_2 ?_
  refine lv_ldc2 (v := 126) hx hb C.2.2.2.1 (C.2.2.2.2.1 _ ln_X7_write_2) dX7_write_5 ?_
  refine ks_p C (c_X7_in l D cI cZ (Int32.toInt64 x1) 32 126 ) (va_cwS 3 C.2.2.2.2.1 gX7_write_X7_in rfl rfl rfl hdX7_in ⟨Nat.le_of_ble_eq_true rfl, Nat.le_of_ble_eq_true rfl⟩) hP hD hS rfl hl.1 rfl (Nat.le_of_ble_eq_true rfl) dX7_write_8 ⟨Nat.zero_le _, Nat.zero_le _⟩ (fun H locs hP hS => ?_)
  refine lv_if_ne (tgt := 16) hx hb dX7_write_11 (by decide) (fun c_1 => ?_) (fun c_1 => ?_)
  · refine lv_aload_n hx hb dX7_write_16 rfl (lv_at hl 0 rfl) ?_
    refine gt7_0 C hP in_X7_write_7 ln_X7_write_3 (v := (u.1 0)) rfl dX7_write_17 ?_
    refine lv_sipush (v := 200) hx hb dX7_write_20 (by decide) ?_
    refine lv_icmp_ne (tgt := 29) hx hb dX7_write_23 (by decide) (fun c_2 => ?_) (fun c_2 => ?_)
    · refine lv_aload_n hx hb dX7_write_29 rfl (lv_at hl 0 rfl) ?_
      refine gt7_1 C hP in_X7_write_7 ln_X7_write_4 dX7_write_30 ?_
      refine lv_aload_n hx hb dX7_write_33 rfl (lv_at hl 0 rfl) ?_
      refine gt7_0 C hP in_X7_write_7 ln_X7_write_3 (v := (u.1 0)) rfl dX7_write_34 ?_
      refine lv_iload_n hx hb dX7_write_37 rfl (lv_at hl 1 rfl) ?_
      refine as7_1 C hP hD hS (ix_c (n := 200) hlen.1 (by have h := ne_t (k := 200) (n := 200) c_2 (by decide); omega)) dX7_write_38 (fun H locs hP hD hS => ?_)
      refine lv_aload_n hx hb dX7_write_39 rfl (lv_at hl 0 rfl) ?_
      refine lv_dup hx hb dX7_write_40 rfl ?_
      refine gt7_0 C hP in_X7_write_7 ln_X7_write_3 (v := (u.1 0)) rfl dX7_write_41 ?_
      refine lv_iconst (v := 1) hx hb dX7_write_44 (by decide) ?_
      refine lv_iadd hx hb dX7_write_45 ?_
      refine pt7_0 C hP hD hS in_X7_write_7 ln_X7_write_3 dX7_write_46 (fun H locs hP hD hS => ?_)
      refine lv_aload_n hx hb dX7_write_49 rfl (lv_at hl 0 rfl) ?_
      refine gt7_0 C hP in_X7_write_7 ln_X7_write_3 (v := ((u.1 0) + 1)) rfl dX7_write_50 ?_
      exact rt_i C hr hlk hP hD hS ((if_neg c_1).trans ((if_neg c_2).trans rfl)) dX7_write_53
    · refine lv_bipush (v := (-3)) hx hb dX7_write_26 (by decide) ?_
      exact rt_i C hr hlk hP hD hS ((if_neg c_1).trans ((if_pos c_2).trans rfl)) dX7_write_28
  · refine lv_iconst (v := (-1)) hx hb dX7_write_14 (by decide) ?_
    exact rt_i C hr hlk hP hD hS ((if_pos c_1).trans rfl) dX7_write_15
theorem ln_X7_wipe_1 : Cond.fieldLink RX7 159 "BlockCardModel" "length" "I" ∈ wsX7_wipe := List.mem_of_getElem? (i := 1) rfl
theorem in_X7_wipe_7 : ∀ w ∈ wsX70, w ∈ wsX7_wipe := fun w h => List.mem_cons_of_mem _ (List.mem_append_right _ h)
set_option maxHeartbeats 4000000 in
set_option maxRecDepth 100000 in
theorem c_X7_wipe (l : Launch) (D : va_G) (cI cZ : ClassId) (ad : Nat → Nat) (u : ob_S)  : Ct_i l yX7_wipe wsX7_wipe ({ frames := 0, cells := 0, slots := 0, locals := 0 } : Room) D (ct_T cI cZ) [.ref (ad 0)] (w_7 cI ad u) (fun u => (w_7 cI ad u)) (f_X7_wipe u) := by
  refine en_i (cc := cX7_wipe) (maxL := 2) (ret := (some .int)) (own := RX7) (by decide +kernel) rfl rfl (Nat.le_of_ble_eq_true rfl) ?_
  intro p e s m args below meth c A ls C hr hlk hP hD hS hl
  have hx := C.1
  have hb := C.2.1
  have hl : lv_has ls 2 [(0, .ref (ad 0))] := hl
  refine lv_aload_n hx hb dX7_wipe_0 rfl (lv_at hl 0 rfl) ?_
  refine gt7_0 C hP in_X7_wipe_7 ln_X7_wipe_1 (v := (u.1 0)) rfl dX7_wipe_1 ?_
  refine lv_istore_n (lv' := [(1, .int _), (0, .ref _)]) hx hb dX7_wipe_4 rfl hl (by decide) rfl (fun ls hl => ?_)
  refine lv_aload_n hx hb dX7_wipe_5 rfl (lv_at hl 1 rfl) ?_
  refine lv_iconst (v := 0) hx hb dX7_wipe_6 (by decide) ?_
  refine pt7_0 C hP hD hS in_X7_wipe_7 ln_X7_wipe_1 dX7_wipe_7 (fun H locs hP hD hS => ?_)
  refine lv_iload_n hx hb dX7_wipe_10 rfl (lv_at hl 0 rfl) ?_
  exact rt_i C hr hlk hP hD hS rfl dX7_wipe_11
set_option maxHeartbeats 4000000 in
set_option maxRecDepth 100000 in
theorem lp_X7_checked_6 {p : Program} {l : Launch} {e : Env} {s : State} {m : MethodId} {args : Array Value} {below : List Frame} {meth : Method} {c : Code} {D : va_G} {A : Nat → Prop} {cI cZ : ClassId} {x0 : Int32} {F : Int32} (C : cx_C p c cX7_checked 4 s m args wsX7_checked RX7 D (ct_T cI cZ) A) (hr : meth.sig.returnType = some .int) (hlk : meth.locks = false) (hD : va_D (fun _ => True) [])  : ∀ (n : Nat) (x2 : Int32) (x3 : Int32) (H : Heap) (locs : List Loc) (ls : Array Slot), x3.toInt + 1 < (n : Int) → -1 ≤ x3.toInt → F = k_X7_checked_6 x0 n x2 x3 → va_P D vwCl [] H → va_S A s.heap H locs → lv_has ls 4 [(0, .int x0), (2, .int x2), (3, .int x3)] → W p l e ({ frames := 0, cells := 0, slots := 0, locals := 0 } : Room) s m args below meth c H locs 0 0 (MQ below (ct_Qp D (ct_T cI cZ) F A) args s 0 0 A) (F0 m 6 ls []) := by
  have hx := C.1
  have hb := C.2.1
  intro n
  induction n with
  | zero =>
    intro x2 x3 H locs ls i0 i1
    exact absurd i0 (by omega)
  | succ n ih =>
    intro x2 x3 H locs ls i0 i1 hF hP hS hl
    refine lv_iload_n hx hb dX7_checked_6 rfl (lv_at hl 2 rfl) ?_
    refine lv_if_lt (tgt := 37) hx hb dX7_checked_7 (by decide) (fun c_1 => ?_) (fun c_1 => ?_)
    · refine lv_iload_n hx hb dX7_checked_37 rfl (lv_at hl 1 rfl) ?_
      exact rt_p C hr hlk hS (hF.trans ((if_pos c_1).trans rfl)) dX7_checked_38
    · refine lv_iload_n hx hb dX7_checked_10 rfl (lv_at hl 1 rfl) ?_
      refine lv_iconst (v := 1) hx hb dX7_checked_11 (by decide) ?_
      refine lv_ishl hx hb dX7_checked_12 ?_
      refine lv_bipush (v := 127) hx hb dX7_checked_13 (by decide) ?_
      refine lv_iand hx hb dX7_checked_15 ?_
      refine lv_bipush (v := 9) hx hb dX7_checked_16 (by decide) ?_
      refine lv_iload_n hx hb dX7_checked_18 rfl (lv_at hl 0 rfl) ?_
      refine lv_iload_n hx hb dX7_checked_19 rfl (lv_at hl 2 rfl) ?_
      refine lv_ishr hx hb dX7_checked_20 ?_
      refine lv_iconst (v := 1) hx hb dX7_checked_21 (by decide) ?_
      refine lv_iand hx hb dX7_checked_22 ?_
      refine lv_iload_n hx hb dX7_checked_23 rfl (lv_at hl 1 rfl) ?_
      refine lv_bipush (v := 6) hx hb dX7_checked_24 (by decide) ?_
      refine lv_ishr hx hb dX7_checked_26 ?_
      refine lv_ixor hx hb dX7_checked_27 ?_
      refine lv_imul hx hb dX7_checked_28 ?_
      refine lv_ixor hx hb dX7_checked_29 ?_
      refine lv_istore_n (lv' := [(2, .int _), (0, .int _), (3, .int _)]) hx hb dX7_checked_30 rfl hl (by decide) rfl (fun ls hl => ?_)
      refine lv_iinc (v := (x3 + (-1))) (lv' := [(3, .int _), (2, .int _), (0, .int _)]) hx hb dX7_checked_31 hl (k := 2) rfl rfl (by decide) rfl (fun ls hl => ?_)
      refine lv_goto (tgt := 6) hx hb dX7_checked_34 (by decide) ?_
      exact ih (((x2 <<< ((1 : Int32) &&& 31)) &&& 127) ^^^ (9 * (((x0 >>> ((x3 : Int32) &&& 31)) &&& 1) ^^^ (x2 >>> ((6 : Int32) &&& 31))))) (x3 + (-1))   _ _ _ (by have h := nlt_k (n := 0) c_1 z_t; have h2 := dec_t h; omega) (by have h := nlt_k (n := 0) c_1 z_t; have h2 := dec_t h; omega) (hF.trans ((if_neg c_1).trans rfl)) hP hS (lv_sub hl [2, 1, 0] rfl)
set_option maxHeartbeats 4000000 in
set_option maxRecDepth 100000 in
theorem c_X7_checked (l : Launch) (D : va_G) (cI cZ : ClassId)  (x0 : Int32) (x1 : Int32) (hb1 : 0 ≤ x1.toInt ∧ x1.toInt ≤ 22) : Ct_p l yX7_checked wsX7_checked ({ frames := 0, cells := 0, slots := 0, locals := 0 } : Room) D (ct_T cI cZ) [.int x0, .int x1] [] (f_X7_checked x0 x1) := by
  refine en_p (cc := cX7_checked) (maxL := 4) (ret := (some .int)) (own := RX7) (by decide +kernel) rfl rfl (Nat.le_of_ble_eq_true rfl) ?_
  intro p e s m args below meth c A ls C hr hlk hP hD hS hl
  have hx := C.1
  have hb := C.2.1
  have hl : lv_has ls 4 [(0, .int x0), (1, .int x1)] := hl
  refine lv_iconst (v := 0) hx hb dX7_checked_0 (by decide) ?_
  refine lv_istore_n (lv' := [(2, .int _), (0, .int _), (1, .int _)]) hx hb dX7_checked_1 rfl hl (by decide) rfl (fun ls hl => ?_)
  refine lv_iload_n hx hb dX7_checked_2 rfl (lv_at hl 2 rfl) ?_
  refine lv_iconst (v := 1) hx hb dX7_checked_3 (by decide) ?_
  refine lv_isub hx hb dX7_checked_4 ?_
  refine lv_istore_n (lv' := [(3, .int _), (2, .int _), (0, .int _), (1, .int _)]) hx hb dX7_checked_5 rfl hl (by decide) rfl (fun ls hl => ?_)
  exact lp_X7_checked_6 C hr hlk hD  23 0 (x1 - 1) _ _ _ (by have h := sub1_t (x := x1) hb1.1; omega) (by have h := sub1_t (x := x1) hb1.1; omega) rfl hP hS (lv_sub hl [2, 1, 0] rfl)
theorem ln_X7_check_1 : Cond.constantLong RX7 162 (63) ∈ wsX7_check := List.mem_of_getElem? (i := 1) rfl
theorem ln_X7_check_2 : Cond.constantLong RX7 50 (65535) ∈ wsX7_check := List.mem_of_getElem? (i := 2) rfl
theorem ln_X7_check_3 : Cond.constant RX7 164 (65536) ∈ wsX7_check := List.mem_of_getElem? (i := 3) rfl
set_option maxHeartbeats 4000000 in
set_option maxRecDepth 100000 in
theorem c_X7_check (l : Launch) (D : va_G) (cI cZ : ClassId) (ad : Nat → Nat) (u : ob_S) (x1 : Int32) (x2 : Int32)  : Ct_p l yX7_check wsX7_check ({ frames := 1, cells := 0, slots := 0, locals := 25 } : Room) D (ct_T cI cZ) [.ref (ad 0), .int x1, .int x2] (w_7 cI ad u) (f_X7_check u x1 x2) := by
  refine en_p (cc := cX7_check) (maxL := 3) (ret := (some .int)) (own := RX7) (by decide +kernel) rfl rfl (Nat.le_of_ble_eq_true rfl) ?_
  intro p e s m args below meth c A ls C hr hlk hP hD hS hl
  have hx := C.1
  have hb := C.2.1
  have hl : lv_has ls 3 [(0, .ref (ad 0)), (1, .int x1), (2, .int x2)] := hl
  refine lv_iload_n hx hb dX7_check_0 rfl (lv_at hl 1 rfl) ?_
  refine lv_i2l hx hb dX7_check_1 rfl ?_
  refine lv_lconst (v := 0) hx hb dX7_check_2 (by decide) ?_
  refine lv_ldc2 (v := 63) hx hb C.2.2.2.1 (C.2.2.2.2.1 _ ln_X7_check_1) dX7_check_3 ?_
  refine ks_p C (c_X7_in l D cI cZ (Int32.toInt64 x1) 0 63 ) (va_cwS 3 C.2.2.2.2.1 gX7_check_X7_in rfl rfl rfl hdX7_in ⟨Nat.le_of_ble_eq_true rfl, Nat.le_of_ble_eq_true rfl⟩) hP hD hS rfl hl.1 rfl (Nat.le_of_ble_eq_true rfl) dX7_check_6 ⟨Nat.zero_le _, Nat.zero_le _⟩ (fun H locs hP hS => ?_)
  refine lv_if_eq (tgt := 38) hx hb dX7_check_9 (by decide) (fun c_1 => ?_) (fun c_1 => ?_)
  · refine lv_iconst (v := (-1)) hx hb dX7_check_38 (by decide) ?_
    exact rt_p C hr hlk hS ((if_pos c_1).trans rfl) dX7_check_39
  · refine lv_iload_n hx hb dX7_check_12 rfl (lv_at hl 2 rfl) ?_
    refine lv_i2l hx hb dX7_check_13 rfl ?_
    refine lv_lconst (v := 0) hx hb dX7_check_14 (by decide) ?_
    refine lv_ldc2 (v := 65535) hx hb C.2.2.2.1 (C.2.2.2.2.1 _ ln_X7_check_2) dX7_check_15 ?_
    refine ks_p C (c_X7_in l D cI cZ (Int32.toInt64 x2) 0 65535 ) (va_cwS 3 C.2.2.2.2.1 gX7_check_X7_in rfl rfl rfl hdX7_in ⟨Nat.le_of_ble_eq_true rfl, Nat.le_of_ble_eq_true rfl⟩) hP hD hS rfl hl.1 rfl (Nat.le_of_ble_eq_true rfl) dX7_check_18 ⟨Nat.zero_le _, Nat.zero_le _⟩ (fun H locs hP hS => ?_)
    refine lv_if_eq (tgt := 38) hx hb dX7_check_21 (by decide) (fun c_2 => ?_) (fun c_2 => ?_)
    · refine lv_iconst (v := (-1)) hx hb dX7_check_38 (by decide) ?_
      exact rt_p C hr hlk hS ((if_neg c_1).trans ((if_pos c_2).trans rfl)) dX7_check_39
    · refine lv_ldc (v := 65536) hx hb C.2.2.2.1 (C.2.2.2.2.1 _ ln_X7_check_3) dX7_check_24 ?_
      refine lv_iload_n hx hb dX7_check_26 rfl (lv_at hl 1 rfl) ?_
      refine lv_imul hx hb dX7_check_27 ?_
      refine lv_iload_n hx hb dX7_check_28 rfl (lv_at hl 2 rfl) ?_
      refine lv_iadd hx hb dX7_check_29 ?_
      refine lv_bipush (v := 22) hx hb dX7_check_30 (by decide) ?_
      refine ks_p C (c_X7_checked l D cI cZ ((65536 * x1) + x2) 22 (by decide)) (va_cwS 2 C.2.2.2.2.1 gX7_check_X7_checked rfl rfl rfl hdX7_checked ⟨Nat.le_of_ble_eq_true rfl, Nat.le_of_ble_eq_true rfl⟩) hP hD hS rfl hl.1 rfl (Nat.le_of_ble_eq_true rfl) dX7_check_32 ⟨Nat.zero_le _, Nat.zero_le _⟩ (fun H locs hP hS => ?_)
      refine lv_goto (tgt := 39) hx hb dX7_check_35 (by decide) ?_
      exact rt_p C hr hlk hS ((if_neg c_1).trans ((if_neg c_2).trans rfl)) dX7_check_39
theorem ln_X7_checkOf_1 : Cond.constantLong RX7 50 (65535) ∈ wsX7_checkOf := List.mem_of_getElem? (i := 1) rfl
set_option maxHeartbeats 4000000 in
set_option maxRecDepth 100000 in
theorem c_X7_checkOf (l : Launch) (D : va_G) (cI cZ : ClassId) (ad : Nat → Nat) (u : ob_S) (x1 : Int32)  : Ct_p l yX7_checkOf wsX7_checkOf ({ frames := 1, cells := 0, slots := 0, locals := 25 } : Room) D (ct_T cI cZ) [.ref (ad 0), .int x1] (w_7 cI ad u) (f_X7_checkOf u x1) := by
  refine en_p (cc := cX7_checkOf) (maxL := 2) (ret := (some .int)) (own := RX7) (by decide +kernel) rfl rfl (Nat.le_of_ble_eq_true rfl) ?_
  intro p e s m args below meth c A ls C hr hlk hP hD hS hl
  have hx := C.1
  have hb := C.2.1
  have hl : lv_has ls 2 [(0, .ref (ad 0)), (1, .int x1)] := hl
  refine lv_iload_n hx hb dX7_checkOf_0 rfl (lv_at hl 1 rfl) ?_
  refine lv_i2l hx hb dX7_checkOf_1 rfl ?_
  refine lv_lconst (v := 0) hx hb dX7_checkOf_2 (by decide) ?_
  refine lv_ldc2 (v := 65535) hx hb C.2.2.2.1 (C.2.2.2.2.1 _ ln_X7_checkOf_1) dX7_checkOf_3 ?_
  refine ks_p C (c_X7_in l D cI cZ (Int32.toInt64 x1) 0 65535 ) (va_cwS 3 C.2.2.2.2.1 gX7_checkOf_X7_in rfl rfl rfl hdX7_in ⟨Nat.le_of_ble_eq_true rfl, Nat.le_of_ble_eq_true rfl⟩) hP hD hS rfl hl.1 rfl (Nat.le_of_ble_eq_true rfl) dX7_checkOf_6 ⟨Nat.zero_le _, Nat.zero_le _⟩ (fun H locs hP hS => ?_)
  refine lv_if_eq (tgt := 21) hx hb dX7_checkOf_9 (by decide) (fun c_1 => ?_) (fun c_1 => ?_)
  · refine lv_iconst (v := (-1)) hx hb dX7_checkOf_21 (by decide) ?_
    exact rt_p C hr hlk hS ((if_pos c_1).trans rfl) dX7_checkOf_22
  · refine lv_iload_n hx hb dX7_checkOf_12 rfl (lv_at hl 1 rfl) ?_
    refine lv_bipush (v := 16) hx hb dX7_checkOf_13 (by decide) ?_
    refine ks_p C (c_X7_checked l D cI cZ x1 16 (by decide)) (va_cwS 2 C.2.2.2.2.1 gX7_checkOf_X7_checked rfl rfl rfl hdX7_checked ⟨Nat.le_of_ble_eq_true rfl, Nat.le_of_ble_eq_true rfl⟩) hP hD hS rfl hl.1 rfl (Nat.le_of_ble_eq_true rfl) dX7_checkOf_15 ⟨Nat.zero_le _, Nat.zero_le _⟩ (fun H locs hP hS => ?_)
    refine lv_goto (tgt := 22) hx hb dX7_checkOf_18 (by decide) ?_
    exact rt_p C hr hlk hS ((if_neg c_1).trans rfl) dX7_checkOf_22
theorem ln_X7_isInWindow_1 : Cond.fieldLink RX7 97 "BlockCardModel" "point" "I" ∈ wsX7_isInWindow := List.mem_of_getElem? (i := 1) rfl
theorem in_X7_isInWindow_7 : ∀ w ∈ wsX70, w ∈ wsX7_isInWindow := fun w h => List.mem_cons_of_mem _ (List.mem_append_right _ h)
theorem ln_X7_isInWindow_2 : Cond.fieldLink RX7 94 "BlockCardModel" "speed" "I" ∈ wsX7_isInWindow := List.mem_of_getElem? (i := 2) rfl
theorem ln_X7_isInWindow_3 : Cond.fieldLink RX7 152 "BlockCardModel" "heat" "I" ∈ wsX7_isInWindow := List.mem_of_getElem? (i := 3) rfl
set_option maxHeartbeats 4000000 in
set_option maxRecDepth 100000 in
theorem c_X7_isInWindow (l : Launch) (D : va_G) (cI cZ : ClassId) (ad : Nat → Nat) (u : ob_S)  : Ct_p l yX7_isInWindow wsX7_isInWindow ({ frames := 0, cells := 0, slots := 0, locals := 0 } : Room) D (ct_T cI cZ) [.ref (ad 0)] (w_7 cI ad u) (f_X7_isInWindow u) := by
  refine en_p (cc := cX7_isInWindow) (maxL := 3) (ret := (some .boolean)) (own := RX7) (by decide +kernel) rfl rfl (Nat.le_of_ble_eq_true rfl) ?_
  intro p e s m args below meth c A ls C hr hlk hP hD hS hl
  have hx := C.1
  have hb := C.2.1
  have hl : lv_has ls 3 [(0, .ref (ad 0))] := hl
  refine lv_aload_n hx hb dX7_isInWindow_0 rfl (lv_at hl 0 rfl) ?_
  refine gt7_20 C hP in_X7_isInWindow_7 ln_X7_isInWindow_1 (v := (u.1 20)) rfl dX7_isInWindow_1 ?_
  refine lv_iconst (v := 3) hx hb dX7_isInWindow_4 (by decide) ?_
  refine lv_isub hx hb dX7_isInWindow_5 ?_
  refine lv_iconst (v := 5) hx hb dX7_isInWindow_6 (by decide) ?_
  refine lv_aload_n hx hb dX7_isInWindow_7 rfl (lv_at hl 0 rfl) ?_
  refine gt7_19 C hP in_X7_isInWindow_7 ln_X7_isInWindow_2 (v := (u.1 19)) rfl dX7_isInWindow_8 ?_
  refine lv_imul hx hb dX7_isInWindow_11 ?_
  refine lv_isub hx hb dX7_isInWindow_12 ?_
  refine lv_aload_n hx hb dX7_isInWindow_13 rfl (lv_at hl 0 rfl) ?_
  refine gt7_2 C hP in_X7_isInWindow_7 ln_X7_isInWindow_3 (v := (u.1 2)) rfl dX7_isInWindow_14 ?_
  refine lv_isub hx hb dX7_isInWindow_17 ?_
  refine lv_bipush (v := 48) hx hb dX7_isInWindow_18 (by decide) ?_
  refine lv_iadd hx hb dX7_isInWindow_20 ?_
  refine lv_bipush (v := 16) hx hb dX7_isInWindow_21 (by decide) ?_
  refine lv_irem hx hb dX7_isInWindow_23 (by decide) ?_
  refine lv_istore_n (lv' := [(1, .int _), (0, .ref _)]) hx hb dX7_isInWindow_24 rfl hl (by decide) rfl (fun ls hl => ?_)
  refine lv_iload_n hx hb dX7_isInWindow_25 rfl (lv_at hl 0 rfl) ?_
  refine lv_bipush (v := 8) hx hb dX7_isInWindow_26 (by decide) ?_
  refine jn_i (g := fun x => F0 m 39 ls (.int x :: [])) ((if ((((((u.1 20) - 3) - (5 * (u.1 19))) - (u.1 2)) + 48) - (((((u.1 20) - 3) - (5 * (u.1 19))) - (u.1 2)) + 48) / 16 * 16) ≤ 8 then ((((((u.1 20) - 3) - (5 * (u.1 19))) - (u.1 2)) + 48) - (((((u.1 20) - 3) - (5 * (u.1 19))) - (u.1 2)) + 48) / 16 * 16) else (16 - ((((((u.1 20) - 3) - (5 * (u.1 19))) - (u.1 2)) + 48) - (((((u.1 20) - 3) - (5 * (u.1 19))) - (u.1 2)) + 48) / 16 * 16)))) (fun y_1 ey_1 => ?_) (fun J_1 => ?_)
  · refine lv_istore_n (lv' := [(2, .int _), (1, .int _), (0, .ref _)]) hx hb dX7_isInWindow_39 rfl hl (by decide) rfl (fun ls hl => ?_)
    refine lv_iload_n hx hb dX7_isInWindow_40 rfl (lv_at hl 0 rfl) ?_
    refine lv_bipush (v := 7) hx hb dX7_isInWindow_41 (by decide) ?_
    refine lv_iconst (v := 2) hx hb dX7_isInWindow_43 (by decide) ?_
    refine lv_aload_n hx hb dX7_isInWindow_44 rfl (lv_at hl 2 rfl) ?_
    refine gt7_19 C hP in_X7_isInWindow_7 ln_X7_isInWindow_2 (v := (u.1 19)) rfl dX7_isInWindow_45 ?_
    refine lv_imul hx hb dX7_isInWindow_48 ?_
    refine lv_isub hx hb dX7_isInWindow_49 ?_
    refine lv_icmp_gt (tgt := 57) hx hb dX7_isInWindow_50 (by decide) (fun c_3 => ?_) (fun c_3 => ?_)
    · refine lv_iconst (v := 0) hx hb dX7_isInWindow_57 (by decide) ?_
      subst ey_1
      exact rt_q C hr hlk (Or.inl rfl) hS ((if_pos c_3).trans rfl) dX7_isInWindow_58
    · refine lv_iconst (v := 1) hx hb dX7_isInWindow_53 (by decide) ?_
      refine lv_goto (tgt := 58) hx hb dX7_isInWindow_54 (by decide) ?_
      subst ey_1
      exact rt_q C hr hlk (Or.inr rfl) hS ((if_neg c_3).trans rfl) dX7_isInWindow_58
  · refine lv_icmp_le (tgt := 38) hx hb dX7_isInWindow_28 (by decide) (fun c_2 => ?_) (fun c_2 => ?_)
    · refine lv_iload_n hx hb dX7_isInWindow_38 rfl (lv_at hl 0 rfl) ?_
      exact J_1 _ ((if_pos c_2).trans rfl).symm
    · refine lv_bipush (v := 16) hx hb dX7_isInWindow_31 (by decide) ?_
      refine lv_iload_n hx hb dX7_isInWindow_33 rfl (lv_at hl 0 rfl) ?_
      refine lv_isub hx hb dX7_isInWindow_34 ?_
      refine lv_goto (tgt := 39) hx hb dX7_isInWindow_35 (by decide) ?_
      exact J_1 _ ((if_neg c_2).trans rfl).symm
theorem ln_X7_isStarred_1 : Cond.constantLong RX7 173 (21) ∈ wsX7_isStarred := List.mem_of_getElem? (i := 1) rfl
theorem ln_X7_isStarred_2 : Cond.constantLong RX7 175 (25) ∈ wsX7_isStarred := List.mem_of_getElem? (i := 2) rfl
set_option maxHeartbeats 4000000 in
set_option maxRecDepth 100000 in
theorem c_X7_isStarred (l : Launch) (D : va_G) (cI cZ : ClassId)  (x0 : Int32)  : Ct_p l yX7_isStarred wsX7_isStarred ({ frames := 1, cells := 0, slots := 0, locals := 25 } : Room) D (ct_T cI cZ) [.int x0] [] (f_X7_isStarred x0) := by
  refine en_p (cc := cX7_isStarred) (maxL := 1) (ret := (some .boolean)) (own := RX7) (by decide +kernel) rfl rfl (Nat.le_of_ble_eq_true rfl) ?_
  intro p e s m args below meth c A ls C hr hlk hP hD hS hl
  have hx := C.1
  have hb := C.2.1
  have hl : lv_has ls 1 [(0, .int x0)] := hl
  refine lv_iload_n hx hb dX7_isStarred_0 rfl (lv_at hl 0 rfl) ?_
  refine lv_bipush (v := 6) hx hb dX7_isStarred_1 (by decide) ?_
  refine lv_icmp_eq (tgt := 50) hx hb dX7_isStarred_3 (by decide) (fun c_1 => ?_) (fun c_1 => ?_)
  · refine lv_iconst (v := 1) hx hb dX7_isStarred_50 (by decide) ?_
    refine lv_goto (tgt := 55) hx hb dX7_isStarred_51 (by decide) ?_
    exact rt_q C hr hlk (Or.inr rfl) hS ((if_pos c_1).trans rfl) dX7_isStarred_55
  · refine lv_iload_n hx hb dX7_isStarred_6 rfl (lv_at hl 0 rfl) ?_
    refine lv_bipush (v := 17) hx hb dX7_isStarred_7 (by decide) ?_
    refine lv_icmp_eq (tgt := 50) hx hb dX7_isStarred_9 (by decide) (fun c_2 => ?_) (fun c_2 => ?_)
    · refine lv_iconst (v := 1) hx hb dX7_isStarred_50 (by decide) ?_
      refine lv_goto (tgt := 55) hx hb dX7_isStarred_51 (by decide) ?_
      exact rt_q C hr hlk (Or.inr rfl) hS ((if_neg c_1).trans ((if_pos c_2).trans rfl)) dX7_isStarred_55
    · refine lv_iload_n hx hb dX7_isStarred_12 rfl (lv_at hl 0 rfl) ?_
      refine lv_bipush (v := 18) hx hb dX7_isStarred_13 (by decide) ?_
      refine lv_icmp_eq (tgt := 50) hx hb dX7_isStarred_15 (by decide) (fun c_3 => ?_) (fun c_3 => ?_)
      · refine lv_iconst (v := 1) hx hb dX7_isStarred_50 (by decide) ?_
        refine lv_goto (tgt := 55) hx hb dX7_isStarred_51 (by decide) ?_
        exact rt_q C hr hlk (Or.inr rfl) hS ((if_neg c_1).trans ((if_neg c_2).trans ((if_pos c_3).trans rfl))) dX7_isStarred_55
      · refine lv_iload_n hx hb dX7_isStarred_18 rfl (lv_at hl 0 rfl) ?_
        refine lv_i2l hx hb dX7_isStarred_19 rfl ?_
        refine lv_ldc2 (v := 21) hx hb C.2.2.2.1 (C.2.2.2.2.1 _ ln_X7_isStarred_1) dX7_isStarred_20 ?_
        refine lv_ldc2 (v := 25) hx hb C.2.2.2.1 (C.2.2.2.2.1 _ ln_X7_isStarred_2) dX7_isStarred_23 ?_
        refine ks_p C (c_X7_in l D cI cZ (Int32.toInt64 x0) 21 25 ) (va_cwS 3 C.2.2.2.2.1 gX7_isStarred_X7_in rfl rfl rfl hdX7_in ⟨Nat.le_of_ble_eq_true rfl, Nat.le_of_ble_eq_true rfl⟩) hP hD hS rfl hl.1 rfl (Nat.le_of_ble_eq_true rfl) dX7_isStarred_26 ⟨Nat.zero_le _, Nat.zero_le _⟩ (fun H locs hP hS => ?_)
        refine lv_if_ne (tgt := 50) hx hb dX7_isStarred_29 (by decide) (fun c_4 => ?_) (fun c_4 => ?_)
        · refine lv_iconst (v := 1) hx hb dX7_isStarred_50 (by decide) ?_
          refine lv_goto (tgt := 55) hx hb dX7_isStarred_51 (by decide) ?_
          exact rt_q C hr hlk (Or.inr rfl) hS ((if_neg c_1).trans ((if_neg c_2).trans ((if_neg c_3).trans ((if_neg c_4).trans rfl)))) dX7_isStarred_55
        · refine lv_iload_n hx hb dX7_isStarred_32 rfl (lv_at hl 0 rfl) ?_
          refine lv_bipush (v := 32) hx hb dX7_isStarred_33 (by decide) ?_
          refine lv_icmp_eq (tgt := 50) hx hb dX7_isStarred_35 (by decide) (fun c_5 => ?_) (fun c_5 => ?_)
          · refine lv_iconst (v := 1) hx hb dX7_isStarred_50 (by decide) ?_
            refine lv_goto (tgt := 55) hx hb dX7_isStarred_51 (by decide) ?_
            exact rt_q C hr hlk (Or.inr rfl) hS ((if_neg c_1).trans ((if_neg c_2).trans ((if_neg c_3).trans ((if_pos c_4).trans ((if_pos c_5).trans rfl))))) dX7_isStarred_55
          · refine lv_iload_n hx hb dX7_isStarred_38 rfl (lv_at hl 0 rfl) ?_
            refine lv_bipush (v := 33) hx hb dX7_isStarred_39 (by decide) ?_
            refine lv_icmp_eq (tgt := 50) hx hb dX7_isStarred_41 (by decide) (fun c_6 => ?_) (fun c_6 => ?_)
            · refine lv_iconst (v := 1) hx hb dX7_isStarred_50 (by decide) ?_
              refine lv_goto (tgt := 55) hx hb dX7_isStarred_51 (by decide) ?_
              exact rt_q C hr hlk (Or.inr rfl) hS ((if_neg c_1).trans ((if_neg c_2).trans ((if_neg c_3).trans ((if_pos c_4).trans ((if_neg c_5).trans ((if_pos c_6).trans rfl)))))) dX7_isStarred_55
            · refine lv_iload_n hx hb dX7_isStarred_44 rfl (lv_at hl 0 rfl) ?_
              refine lv_bipush (v := 38) hx hb dX7_isStarred_45 (by decide) ?_
              refine lv_icmp_ne (tgt := 54) hx hb dX7_isStarred_47 (by decide) (fun c_7 => ?_) (fun c_7 => ?_)
              · refine lv_iconst (v := 0) hx hb dX7_isStarred_54 (by decide) ?_
                exact rt_q C hr hlk (Or.inl rfl) hS ((if_neg c_1).trans ((if_neg c_2).trans ((if_neg c_3).trans ((if_pos c_4).trans ((if_neg c_5).trans ((if_neg c_6).trans ((if_neg c_7).trans rfl))))))) dX7_isStarred_55
              · refine lv_iconst (v := 1) hx hb dX7_isStarred_50 (by decide) ?_
                refine lv_goto (tgt := 55) hx hb dX7_isStarred_51 (by decide) ?_
                exact rt_q C hr hlk (Or.inr rfl) hS ((if_neg c_1).trans ((if_neg c_2).trans ((if_neg c_3).trans ((if_pos c_4).trans ((if_neg c_5).trans ((if_neg c_6).trans ((if_pos c_7).trans rfl))))))) dX7_isStarred_55
theorem ln_X7_isOne_1 : Cond.fieldLink RX7 85 "BlockCardModel" "state" "I" ∈ wsX7_isOne := List.mem_of_getElem? (i := 1) rfl
theorem in_X7_isOne_7 : ∀ w ∈ wsX70, w ∈ wsX7_isOne := fun w h => List.mem_cons_of_mem _ (List.mem_append_right _ h)
set_option maxHeartbeats 4000000 in
set_option maxRecDepth 100000 in
theorem c_X7_isOne (l : Launch) (D : va_G) (cI cZ : ClassId) (ad : Nat → Nat) (u : ob_S) (x1 : Int32)  : Ct_p l yX7_isOne wsX7_isOne ({ frames := 2, cells := 0, slots := 0, locals := 45 } : Room) D (ct_T cI cZ) [.ref (ad 0), .int x1] (w_7 cI ad u) (f_X7_isOne u x1) := by
  refine en_p (cc := cX7_isOne) (maxL := 2) (ret := (some .boolean)) (own := RX7) (by decide +kernel) rfl rfl (Nat.le_of_ble_eq_true rfl) ?_
  intro p e s m args below meth c A ls C hr hlk hP hD hS hl
  have hx := C.1
  have hb := C.2.1
  have hl : lv_has ls 2 [(0, .ref (ad 0)), (1, .int x1)] := hl
  refine lv_iload_n hx hb dX7_isOne_0 rfl (lv_at hl 1 rfl) ?_
  by_cases s_1 : x1 = 0
  · refine lv_lookup (off := 75) (tgt := 76) hx hb dX7_isOne_1 (by decide) (by rw [s_1] <;> rfl) (by decide) ?_
    refine lv_iconst (v := 1) hx hb dX7_isOne_76 (by decide) ?_
    exact rt_q C hr hlk (Or.inr rfl) hS ((if_pos s_1).trans rfl) dX7_isOne_77
  by_cases s_2 : x1 = 1
  · refine lv_lookup (off := 77) (tgt := 78) hx hb dX7_isOne_1 (by decide) (by rw [s_2] <;> rfl) (by decide) ?_
    refine lv_aload_n hx hb dX7_isOne_78 rfl (lv_at hl 0 rfl) ?_
    refine gt7_16 C hP in_X7_isOne_7 ln_X7_isOne_1 (v := (u.1 16)) rfl dX7_isOne_79 ?_
    refine lv_if_ne (tgt := 89) hx hb dX7_isOne_82 (by decide) (fun c_3 => ?_) (fun c_3 => ?_)
    · refine lv_iconst (v := 0) hx hb dX7_isOne_89 (by decide) ?_
      exact rt_q C hr hlk (Or.inl rfl) hS ((if_neg s_1).trans ((if_pos s_2).trans ((if_neg c_3).trans rfl))) dX7_isOne_90
    · refine lv_iconst (v := 1) hx hb dX7_isOne_85 (by decide) ?_
      refine lv_goto (tgt := 90) hx hb dX7_isOne_86 (by decide) ?_
      exact rt_q C hr hlk (Or.inr rfl) hS ((if_neg s_1).trans ((if_pos s_2).trans ((if_pos c_3).trans rfl))) dX7_isOne_90
  by_cases s_4 : x1 = 2
  · refine lv_lookup (off := 90) (tgt := 91) hx hb dX7_isOne_1 (by decide) (by rw [s_4] <;> rfl) (by decide) ?_
    refine lv_aload_n hx hb dX7_isOne_91 rfl (lv_at hl 0 rfl) ?_
    refine gt7_16 C hP in_X7_isOne_7 ln_X7_isOne_1 (v := (u.1 16)) rfl dX7_isOne_92 ?_
    refine lv_iconst (v := 1) hx hb dX7_isOne_95 (by decide) ?_
    refine lv_icmp_ne (tgt := 103) hx hb dX7_isOne_96 (by decide) (fun c_5 => ?_) (fun c_5 => ?_)
    · refine lv_iconst (v := 0) hx hb dX7_isOne_103 (by decide) ?_
      exact rt_q C hr hlk (Or.inl rfl) hS ((if_neg s_1).trans ((if_neg s_2).trans ((if_pos s_4).trans ((if_neg c_5).trans rfl)))) dX7_isOne_104
    · refine lv_iconst (v := 1) hx hb dX7_isOne_99 (by decide) ?_
      refine lv_goto (tgt := 104) hx hb dX7_isOne_100 (by decide) ?_
      exact rt_q C hr hlk (Or.inr rfl) hS ((if_neg s_1).trans ((if_neg s_2).trans ((if_pos s_4).trans ((if_pos c_5).trans rfl)))) dX7_isOne_104
  by_cases s_6 : x1 = 3
  · refine lv_lookup (off := 104) (tgt := 105) hx hb dX7_isOne_1 (by decide) (by rw [s_6] <;> rfl) (by decide) ?_
    refine lv_aload_n hx hb dX7_isOne_105 rfl (lv_at hl 0 rfl) ?_
    refine gt7_16 C hP in_X7_isOne_7 ln_X7_isOne_1 (v := (u.1 16)) rfl dX7_isOne_106 ?_
    refine lv_iconst (v := 2) hx hb dX7_isOne_109 (by decide) ?_
    refine lv_icmp_eq (tgt := 121) hx hb dX7_isOne_110 (by decide) (fun c_7 => ?_) (fun c_7 => ?_)
    · refine lv_iconst (v := 1) hx hb dX7_isOne_121 (by decide) ?_
      refine lv_goto (tgt := 126) hx hb dX7_isOne_122 (by decide) ?_
      exact rt_q C hr hlk (Or.inr rfl) hS ((if_neg s_1).trans ((if_neg s_2).trans ((if_neg s_4).trans ((if_pos s_6).trans ((if_pos c_7).trans rfl))))) dX7_isOne_126
    · refine lv_aload_n hx hb dX7_isOne_113 rfl (lv_at hl 0 rfl) ?_
      refine gt7_16 C hP in_X7_isOne_7 ln_X7_isOne_1 (v := (u.1 16)) rfl dX7_isOne_114 ?_
      refine lv_iconst (v := 3) hx hb dX7_isOne_117 (by decide) ?_
      refine lv_icmp_ne (tgt := 125) hx hb dX7_isOne_118 (by decide) (fun c_8 => ?_) (fun c_8 => ?_)
      · refine lv_iconst (v := 0) hx hb dX7_isOne_125 (by decide) ?_
        exact rt_q C hr hlk (Or.inl rfl) hS ((if_neg s_1).trans ((if_neg s_2).trans ((if_neg s_4).trans ((if_pos s_6).trans ((if_neg c_7).trans ((if_neg c_8).trans rfl)))))) dX7_isOne_126
      · refine lv_iconst (v := 1) hx hb dX7_isOne_121 (by decide) ?_
        refine lv_goto (tgt := 126) hx hb dX7_isOne_122 (by decide) ?_
        exact rt_q C hr hlk (Or.inr rfl) hS ((if_neg s_1).trans ((if_neg s_2).trans ((if_neg s_4).trans ((if_pos s_6).trans ((if_neg c_7).trans ((if_pos c_8).trans rfl)))))) dX7_isOne_126
  by_cases s_9 : x1 = 7
  · refine lv_lookup (off := 126) (tgt := 127) hx hb dX7_isOne_1 (by decide) (by rw [s_9] <;> rfl) (by decide) ?_
    refine lv_aload_n hx hb dX7_isOne_127 rfl (lv_at hl 0 rfl) ?_
    refine gt7_16 C hP in_X7_isOne_7 ln_X7_isOne_1 (v := (u.1 16)) rfl dX7_isOne_128 ?_
    refine lv_iconst (v := 3) hx hb dX7_isOne_131 (by decide) ?_
    refine lv_icmp_eq (tgt := 143) hx hb dX7_isOne_132 (by decide) (fun c_10 => ?_) (fun c_10 => ?_)
    · refine lv_iconst (v := 1) hx hb dX7_isOne_143 (by decide) ?_
      refine lv_goto (tgt := 148) hx hb dX7_isOne_144 (by decide) ?_
      exact rt_q C hr hlk (Or.inr rfl) hS ((if_neg s_1).trans ((if_neg s_2).trans ((if_neg s_4).trans ((if_neg s_6).trans ((if_pos s_9).trans ((if_pos c_10).trans rfl)))))) dX7_isOne_148
    · refine lv_aload_n hx hb dX7_isOne_135 rfl (lv_at hl 0 rfl) ?_
      refine gt7_16 C hP in_X7_isOne_7 ln_X7_isOne_1 (v := (u.1 16)) rfl dX7_isOne_136 ?_
      refine lv_iconst (v := 4) hx hb dX7_isOne_139 (by decide) ?_
      refine lv_icmp_ne (tgt := 147) hx hb dX7_isOne_140 (by decide) (fun c_11 => ?_) (fun c_11 => ?_)
      · refine lv_iconst (v := 0) hx hb dX7_isOne_147 (by decide) ?_
        exact rt_q C hr hlk (Or.inl rfl) hS ((if_neg s_1).trans ((if_neg s_2).trans ((if_neg s_4).trans ((if_neg s_6).trans ((if_pos s_9).trans ((if_neg c_10).trans ((if_neg c_11).trans rfl))))))) dX7_isOne_148
      · refine lv_iconst (v := 1) hx hb dX7_isOne_143 (by decide) ?_
        refine lv_goto (tgt := 148) hx hb dX7_isOne_144 (by decide) ?_
        exact rt_q C hr hlk (Or.inr rfl) hS ((if_neg s_1).trans ((if_neg s_2).trans ((if_neg s_4).trans ((if_neg s_6).trans ((if_pos s_9).trans ((if_neg c_10).trans ((if_pos c_11).trans rfl))))))) dX7_isOne_148
  by_cases s_12 : x1 = 12
  · refine lv_lookup (off := 148) (tgt := 149) hx hb dX7_isOne_1 (by decide) (by rw [s_12] <;> rfl) (by decide) ?_
    refine lv_aload_n hx hb dX7_isOne_149 rfl (lv_at hl 0 rfl) ?_
    refine gt7_16 C hP in_X7_isOne_7 ln_X7_isOne_1 (v := (u.1 16)) rfl dX7_isOne_150 ?_
    refine lv_iconst (v := 5) hx hb dX7_isOne_153 (by decide) ?_
    refine lv_icmp_eq (tgt := 166) hx hb dX7_isOne_154 (by decide) (fun c_13 => ?_) (fun c_13 => ?_)
    · refine lv_iconst (v := 1) hx hb dX7_isOne_166 (by decide) ?_
      refine lv_goto (tgt := 171) hx hb dX7_isOne_167 (by decide) ?_
      exact rt_q C hr hlk (Or.inr rfl) hS ((if_neg s_1).trans ((if_neg s_2).trans ((if_neg s_4).trans ((if_neg s_6).trans ((if_neg s_9).trans ((if_pos s_12).trans ((if_pos c_13).trans rfl))))))) dX7_isOne_171
    · refine lv_aload_n hx hb dX7_isOne_157 rfl (lv_at hl 0 rfl) ?_
      refine gt7_16 C hP in_X7_isOne_7 ln_X7_isOne_1 (v := (u.1 16)) rfl dX7_isOne_158 ?_
      refine lv_bipush (v := 6) hx hb dX7_isOne_161 (by decide) ?_
      refine lv_icmp_ne (tgt := 170) hx hb dX7_isOne_163 (by decide) (fun c_14 => ?_) (fun c_14 => ?_)
      · refine lv_iconst (v := 0) hx hb dX7_isOne_170 (by decide) ?_
        exact rt_q C hr hlk (Or.inl rfl) hS ((if_neg s_1).trans ((if_neg s_2).trans ((if_neg s_4).trans ((if_neg s_6).trans ((if_neg s_9).trans ((if_pos s_12).trans ((if_neg c_13).trans ((if_neg c_14).trans rfl)))))))) dX7_isOne_171
      · refine lv_iconst (v := 1) hx hb dX7_isOne_166 (by decide) ?_
        refine lv_goto (tgt := 171) hx hb dX7_isOne_167 (by decide) ?_
        exact rt_q C hr hlk (Or.inr rfl) hS ((if_neg s_1).trans ((if_neg s_2).trans ((if_neg s_4).trans ((if_neg s_6).trans ((if_neg s_9).trans ((if_pos s_12).trans ((if_neg c_13).trans ((if_pos c_14).trans rfl)))))))) dX7_isOne_171
  by_cases s_15 : x1 = 13
  · refine lv_lookup (off := 171) (tgt := 172) hx hb dX7_isOne_1 (by decide) (by rw [s_15] <;> rfl) (by decide) ?_
    refine lv_aload_n hx hb dX7_isOne_172 rfl (lv_at hl 0 rfl) ?_
    refine gt7_16 C hP in_X7_isOne_7 ln_X7_isOne_1 (v := (u.1 16)) rfl dX7_isOne_173 ?_
    refine lv_iconst (v := 3) hx hb dX7_isOne_176 (by decide) ?_
    refine lv_icmp_lt (tgt := 184) hx hb dX7_isOne_177 (by decide) (fun c_16 => ?_) (fun c_16 => ?_)
    · refine lv_iconst (v := 0) hx hb dX7_isOne_184 (by decide) ?_
      exact rt_q C hr hlk (Or.inl rfl) hS ((if_neg s_1).trans ((if_neg s_2).trans ((if_neg s_4).trans ((if_neg s_6).trans ((if_neg s_9).trans ((if_neg s_12).trans ((if_pos s_15).trans ((if_pos c_16).trans rfl)))))))) dX7_isOne_185
    · refine lv_iconst (v := 1) hx hb dX7_isOne_180 (by decide) ?_
      refine lv_goto (tgt := 185) hx hb dX7_isOne_181 (by decide) ?_
      exact rt_q C hr hlk (Or.inr rfl) hS ((if_neg s_1).trans ((if_neg s_2).trans ((if_neg s_4).trans ((if_neg s_6).trans ((if_neg s_9).trans ((if_neg s_12).trans ((if_pos s_15).trans ((if_neg c_16).trans rfl)))))))) dX7_isOne_185
  by_cases s_17 : x1 = 42
  · refine lv_lookup (off := 185) (tgt := 186) hx hb dX7_isOne_1 (by decide) (by rw [s_17] <;> rfl) (by decide) ?_
    refine lv_aload_n hx hb dX7_isOne_186 rfl (lv_at hl 0 rfl) ?_
    refine gt7_16 C hP in_X7_isOne_7 ln_X7_isOne_1 (v := (u.1 16)) rfl dX7_isOne_187 ?_
    refine lv_iconst (v := 4) hx hb dX7_isOne_190 (by decide) ?_
    refine lv_icmp_ne (tgt := 198) hx hb dX7_isOne_191 (by decide) (fun c_18 => ?_) (fun c_18 => ?_)
    · refine lv_iconst (v := 0) hx hb dX7_isOne_198 (by decide) ?_
      exact rt_q C hr hlk (Or.inl rfl) hS ((if_neg s_1).trans ((if_neg s_2).trans ((if_neg s_4).trans ((if_neg s_6).trans ((if_neg s_9).trans ((if_neg s_12).trans ((if_neg s_15).trans ((if_pos s_17).trans ((if_neg c_18).trans rfl))))))))) dX7_isOne_199
    · refine lv_iconst (v := 1) hx hb dX7_isOne_194 (by decide) ?_
      refine lv_goto (tgt := 199) hx hb dX7_isOne_195 (by decide) ?_
      exact rt_q C hr hlk (Or.inr rfl) hS ((if_neg s_1).trans ((if_neg s_2).trans ((if_neg s_4).trans ((if_neg s_6).trans ((if_neg s_9).trans ((if_neg s_12).trans ((if_neg s_15).trans ((if_pos s_17).trans ((if_pos c_18).trans rfl))))))))) dX7_isOne_199
  refine lv_lookup (off := 199) (tgt := 200) hx hb dX7_isOne_1 (by decide) (by rw [lv_osw s_1 (a := 0) rfl, lv_osw s_2 (a := 1) rfl, lv_osw s_4 (a := 2) rfl, lv_osw s_6 (a := 3) rfl, lv_osw s_9 (a := 7) rfl, lv_osw s_12 (a := 12) rfl, lv_osw s_15 (a := 13) rfl, lv_osw s_17 (a := 42) rfl] <;> rfl) (by decide) ?_
  refine lv_iload_n hx hb dX7_isOne_200 rfl (lv_at hl 1 rfl) ?_
  refine ks_p C (c_X7_isStarred l D cI cZ x1 ) (va_cwS 1 C.2.2.2.2.1 gX7_isOne_X7_isStarred rfl rfl rfl hdX7_isStarred ⟨Nat.le_of_ble_eq_true rfl, Nat.le_of_ble_eq_true rfl⟩) hP hD hS rfl hl.1 rfl (Nat.le_of_ble_eq_true rfl) dX7_isOne_201 ⟨Nat.zero_le _, Nat.zero_le _⟩ (fun H locs hP hS => ?_)
  refine lv_if_eq (tgt := 219) hx hb dX7_isOne_204 (by decide) (fun c_19 => ?_) (fun c_19 => ?_)
  · refine lv_iconst (v := 0) hx hb dX7_isOne_219 (by decide) ?_
    exact rt_q C hr hlk (Or.inl rfl) hS ((if_neg s_1).trans ((if_neg s_2).trans ((if_neg s_4).trans ((if_neg s_6).trans ((if_neg s_9).trans ((if_neg s_12).trans ((if_neg s_15).trans ((if_neg s_17).trans ((if_pos c_19).trans rfl))))))))) dX7_isOne_220
  · refine lv_aload_n hx hb dX7_isOne_207 rfl (lv_at hl 0 rfl) ?_
    refine gt7_16 C hP in_X7_isOne_7 ln_X7_isOne_1 (v := (u.1 16)) rfl dX7_isOne_208 ?_
    refine lv_iconst (v := 4) hx hb dX7_isOne_211 (by decide) ?_
    refine lv_icmp_ne (tgt := 219) hx hb dX7_isOne_212 (by decide) (fun c_20 => ?_) (fun c_20 => ?_)
    · refine lv_iconst (v := 0) hx hb dX7_isOne_219 (by decide) ?_
      exact rt_q C hr hlk (Or.inl rfl) hS ((if_neg s_1).trans ((if_neg s_2).trans ((if_neg s_4).trans ((if_neg s_6).trans ((if_neg s_9).trans ((if_neg s_12).trans ((if_neg s_15).trans ((if_neg s_17).trans ((if_neg c_19).trans ((if_neg c_20).trans rfl)))))))))) dX7_isOne_220
    · refine lv_iconst (v := 1) hx hb dX7_isOne_215 (by decide) ?_
      refine lv_goto (tgt := 220) hx hb dX7_isOne_216 (by decide) ?_
      exact rt_q C hr hlk (Or.inr rfl) hS ((if_neg s_1).trans ((if_neg s_2).trans ((if_neg s_4).trans ((if_neg s_6).trans ((if_neg s_9).trans ((if_neg s_12).trans ((if_neg s_15).trans ((if_neg s_17).trans ((if_neg c_19).trans ((if_pos c_20).trans rfl)))))))))) dX7_isOne_220
theorem ln_X7_noting_1 : Cond.fieldLink RX7 103 "BlockCardModel" "notes" "I" ∈ wsX7_noting := List.mem_of_getElem? (i := 1) rfl
theorem in_X7_noting_7 : ∀ w ∈ wsX70, w ∈ wsX7_noting := fun w h => List.mem_cons_of_mem _ (List.mem_append_right _ h)
set_option maxHeartbeats 4000000 in
set_option maxRecDepth 100000 in
theorem c_X7_noting (l : Launch) (D : va_G) (cI cZ : ClassId) (ad : Nat → Nat) (u : ob_S) (x1 : Int32)  : Ct_i l yX7_noting wsX7_noting ({ frames := 0, cells := 0, slots := 0, locals := 0 } : Room) D (ct_T cI cZ) [.ref (ad 0), .int x1] (w_7 cI ad u) (fun u => (w_7 cI ad u)) (f_X7_noting u x1) := by
  refine en_i (cc := cX7_noting) (maxL := 2) (ret := (some .int)) (own := RX7) (by decide +kernel) rfl rfl (Nat.le_of_ble_eq_true rfl) ?_
  intro p e s m args below meth c A ls C hr hlk hP hD hS hl
  have hx := C.1
  have hb := C.2.1
  have hl : lv_has ls 2 [(0, .ref (ad 0)), (1, .int x1)] := hl
  refine lv_aload_n hx hb dX7_noting_0 rfl (lv_at hl 0 rfl) ?_
  refine lv_dup hx hb dX7_noting_1 rfl ?_
  refine gt7_22 C hP in_X7_noting_7 ln_X7_noting_1 (v := (u.1 22)) rfl dX7_noting_2 ?_
  refine lv_iload_n hx hb dX7_noting_5 rfl (lv_at hl 1 rfl) ?_
  refine lv_ior hx hb dX7_noting_6 ?_
  refine pt7_22 C hP hD hS in_X7_noting_7 ln_X7_noting_1 dX7_noting_7 (fun H locs hP hD hS => ?_)
  refine lv_bipush (v := (-2)) hx hb dX7_noting_10 (by decide) ?_
  exact rt_i C hr hlk hP hD hS rfl dX7_noting_12
theorem ln_X7_switches_1 : Cond.fieldLink RX7 103 "BlockCardModel" "notes" "I" ∈ wsX7_switches := List.mem_of_getElem? (i := 1) rfl
theorem in_X7_switches_7 : ∀ w ∈ wsX70, w ∈ wsX7_switches := fun w h => List.mem_cons_of_mem _ (List.mem_append_right _ h)
theorem ln_X7_switches_2 : Cond.fieldLink RX7 94 "BlockCardModel" "speed" "I" ∈ wsX7_switches := List.mem_of_getElem? (i := 2) rfl
theorem ln_X7_switches_3 : Cond.fieldLink RX7 91 "BlockCardModel" "lines" "I" ∈ wsX7_switches := List.mem_of_getElem? (i := 3) rfl
set_option maxHeartbeats 4000000 in
set_option maxRecDepth 100000 in
theorem c_X7_switches (l : Launch) (D : va_G) (cI cZ : ClassId) (ad : Nat → Nat) (u : ob_S) (x1 : Int32) (x2 : Int32)  : Ct_v l yX7_switches wsX7_switches ({ frames := 0, cells := 0, slots := 0, locals := 0 } : Room) D (ct_T cI cZ) [.ref (ad 0), .int x1, .int x2] (w_7 cI ad u) (fun u => (w_7 cI ad u)) (f_X7_switches u x1 x2) := by
  refine en_v (cc := cX7_switches) (maxL := 3) (ret := none) (own := RX7) (by decide +kernel) rfl rfl (Nat.le_of_ble_eq_true rfl) ?_
  intro p e s m args below meth c A ls C hr hlk hP hD hS hl
  have hx := C.1
  have hb := C.2.1
  have hl : lv_has ls 3 [(0, .ref (ad 0)), (1, .int x1), (2, .int x2)] := hl
  refine lv_iload_n hx hb dX7_switches_0 rfl (lv_at hl 1 rfl) ?_
  refine lv_iconst (v := 3) hx hb dX7_switches_1 (by decide) ?_
  refine lv_icmp_gt (tgt := 19) hx hb dX7_switches_2 (by decide) (fun c_1 => ?_) (fun c_1 => ?_)
  · refine lv_aload_n hx hb dX7_switches_19 rfl (lv_at hl 0 rfl) ?_
    refine lv_dup hx hb dX7_switches_20 rfl ?_
    refine gt7_22 C hP in_X7_switches_7 ln_X7_switches_1 (v := (u.1 22)) rfl dX7_switches_21 ?_
    refine lv_bipush (v := 32) hx hb dX7_switches_24 (by decide) ?_
    refine lv_ior hx hb dX7_switches_26 ?_
    refine pt7_22 C hP hD hS in_X7_switches_7 ln_X7_switches_1 dX7_switches_27 (fun H locs hP hD hS => ?_)
    refine lv_goto (tgt := 43) hx hb dX7_switches_30 (by decide) ?_
    exact rt_v C hr hlk hP hD hS ((if_pos c_1).trans rfl) dX7_switches_43
  · refine lv_iload_n hx hb dX7_switches_5 rfl (lv_at hl 2 rfl) ?_
    refine lv_iconst (v := 2) hx hb dX7_switches_6 (by decide) ?_
    refine lv_icmp_gt (tgt := 19) hx hb dX7_switches_7 (by decide) (fun c_2 => ?_) (fun c_2 => ?_)
    · refine lv_aload_n hx hb dX7_switches_19 rfl (lv_at hl 0 rfl) ?_
      refine lv_dup hx hb dX7_switches_20 rfl ?_
      refine gt7_22 C hP in_X7_switches_7 ln_X7_switches_1 (v := (u.1 22)) rfl dX7_switches_21 ?_
      refine lv_bipush (v := 32) hx hb dX7_switches_24 (by decide) ?_
      refine lv_ior hx hb dX7_switches_26 ?_
      refine pt7_22 C hP hD hS in_X7_switches_7 ln_X7_switches_1 dX7_switches_27 (fun H locs hP hD hS => ?_)
      refine lv_goto (tgt := 43) hx hb dX7_switches_30 (by decide) ?_
      exact rt_v C hr hlk hP hD hS ((if_neg c_1).trans ((if_pos c_2).trans rfl)) dX7_switches_43
    · refine lv_iload_n hx hb dX7_switches_10 rfl (lv_at hl 1 rfl) ?_
      refine lv_iconst (v := 1) hx hb dX7_switches_11 (by decide) ?_
      refine lv_icmp_le (tgt := 33) hx hb dX7_switches_12 (by decide) (fun c_3 => ?_) (fun c_3 => ?_)
      · refine lv_aload_n hx hb dX7_switches_33 rfl (lv_at hl 0 rfl) ?_
        refine lv_iload_n hx hb dX7_switches_34 rfl (lv_at hl 1 rfl) ?_
        refine pt7_19 C hP hD hS in_X7_switches_7 ln_X7_switches_2 dX7_switches_35 (fun H locs hP hD hS => ?_)
        refine lv_aload_n hx hb dX7_switches_38 rfl (lv_at hl 0 rfl) ?_
        refine lv_iload_n hx hb dX7_switches_39 rfl (lv_at hl 2 rfl) ?_
        refine pt7_18 C hP hD hS in_X7_switches_7 ln_X7_switches_3 dX7_switches_40 (fun H locs hP hD hS => ?_)
        exact rt_v C hr hlk hP hD hS ((if_neg c_1).trans ((if_neg c_2).trans ((if_pos c_3).trans rfl))) dX7_switches_43
      · refine lv_iload_n hx hb dX7_switches_15 rfl (lv_at hl 2 rfl) ?_
        refine lv_if_ne (tgt := 33) hx hb dX7_switches_16 (by decide) (fun c_4 => ?_) (fun c_4 => ?_)
        · refine lv_aload_n hx hb dX7_switches_33 rfl (lv_at hl 0 rfl) ?_
          refine lv_iload_n hx hb dX7_switches_34 rfl (lv_at hl 1 rfl) ?_
          refine pt7_19 C hP hD hS in_X7_switches_7 ln_X7_switches_2 dX7_switches_35 (fun H locs hP hD hS => ?_)
          refine lv_aload_n hx hb dX7_switches_38 rfl (lv_at hl 0 rfl) ?_
          refine lv_iload_n hx hb dX7_switches_39 rfl (lv_at hl 2 rfl) ?_
          refine pt7_18 C hP hD hS in_X7_switches_7 ln_X7_switches_3 dX7_switches_40 (fun H locs hP hD hS => ?_)
          exact rt_v C hr hlk hP hD hS ((if_neg c_1).trans ((if_neg c_2).trans ((if_neg c_3).trans ((if_neg c_4).trans rfl)))) dX7_switches_43
        · refine lv_aload_n hx hb dX7_switches_19 rfl (lv_at hl 0 rfl) ?_
          refine lv_dup hx hb dX7_switches_20 rfl ?_
          refine gt7_22 C hP in_X7_switches_7 ln_X7_switches_1 (v := (u.1 22)) rfl dX7_switches_21 ?_
          refine lv_bipush (v := 32) hx hb dX7_switches_24 (by decide) ?_
          refine lv_ior hx hb dX7_switches_26 ?_
          refine pt7_22 C hP hD hS in_X7_switches_7 ln_X7_switches_1 dX7_switches_27 (fun H locs hP hD hS => ?_)
          refine lv_goto (tgt := 43) hx hb dX7_switches_30 (by decide) ?_
          exact rt_v C hr hlk hP hD hS ((if_neg c_1).trans ((if_neg c_2).trans ((if_neg c_3).trans ((if_pos c_4).trans rfl)))) dX7_switches_43
theorem ln_X7_chooses_1 : Cond.fieldLink RX7 85 "BlockCardModel" "state" "I" ∈ wsX7_chooses := List.mem_of_getElem? (i := 1) rfl
theorem in_X7_chooses_7 : ∀ w ∈ wsX70, w ∈ wsX7_chooses := fun w h => List.mem_cons_of_mem _ (List.mem_append_right _ h)
theorem ln_X7_chooses_2 : Cond.fieldLink RX7 88 "BlockCardModel" "address" "I" ∈ wsX7_chooses := List.mem_of_getElem? (i := 2) rfl
set_option maxHeartbeats 4000000 in
set_option maxRecDepth 100000 in
theorem c_X7_chooses (l : Launch) (D : va_G) (cI cZ : ClassId) (ad : Nat → Nat) (u : ob_S) (x1 : Int32)  : Ct_i l yX7_chooses wsX7_chooses ({ frames := 0, cells := 0, slots := 0, locals := 0 } : Room) D (ct_T cI cZ) [.ref (ad 0), .int x1] (w_7 cI ad u) (fun u => (w_7 cI ad u)) (f_X7_chooses u x1) := by
  refine en_i (cc := cX7_chooses) (maxL := 2) (ret := (some .int)) (own := RX7) (by decide +kernel) rfl rfl (Nat.le_of_ble_eq_true rfl) ?_
  intro p e s m args below meth c A ls C hr hlk hP hD hS hl
  have hx := C.1
  have hb := C.2.1
  have hl : lv_has ls 2 [(0, .ref (ad 0)), (1, .int x1)] := hl
  refine lv_aload_n hx hb dX7_chooses_0 rfl (lv_at hl 0 rfl) ?_
  refine gt7_16 C hP in_X7_chooses_7 ln_X7_chooses_1 (v := (u.1 16)) rfl dX7_chooses_1 ?_
  refine lv_iconst (v := 4) hx hb dX7_chooses_4 (by decide) ?_
  refine lv_icmp_ne (tgt := 28) hx hb dX7_chooses_5 (by decide) (fun c_1 => ?_) (fun c_1 => ?_)
  · refine lv_aload_n hx hb dX7_chooses_28 rfl (lv_at hl 0 rfl) ?_
    refine lv_iload_n hx hb dX7_chooses_29 rfl (lv_at hl 1 rfl) ?_
    refine lv_aload_n hx hb dX7_chooses_30 rfl (lv_at hl 0 rfl) ?_
    refine gt7_17 C hP in_X7_chooses_7 ln_X7_chooses_2 (v := (u.1 17)) rfl dX7_chooses_31 ?_
    refine jn_i (g := fun x => F0 m 42 ls (.int x :: [.ref (ad 0)])) ((if x1 = (u.1 17) then 4 else 3)) (fun y_2 ey_2 => ?_) (fun J_2 => ?_)
    · refine pt7_16 C hP hD hS in_X7_chooses_7 ln_X7_chooses_1 dX7_chooses_42 (fun H locs hP hD hS => ?_)
      refine lv_iload_n hx hb dX7_chooses_45 rfl (lv_at hl 1 rfl) ?_
      refine lv_aload_n hx hb dX7_chooses_46 rfl (lv_at hl 0 rfl) ?_
      refine gt7_17 C hP in_X7_chooses_7 ln_X7_chooses_2 (v := (u.1 17)) rfl dX7_chooses_47 ?_
      refine lv_icmp_ne (tgt := 57) hx hb dX7_chooses_50 (by decide) (fun c_4 => ?_) (fun c_4 => ?_)
      · refine lv_bipush (v := (-4)) hx hb dX7_chooses_57 (by decide) ?_
        subst ey_2
        exact rt_i C hr hlk hP hD hS ((if_neg c_1).trans ((if_neg c_4).trans rfl)) dX7_chooses_59
      · refine lv_iconst (v := 1) hx hb dX7_chooses_53 (by decide) ?_
        refine lv_goto (tgt := 59) hx hb dX7_chooses_54 (by decide) ?_
        subst ey_2
        exact rt_i C hr hlk hP hD hS ((if_neg c_1).trans ((if_pos c_4).trans rfl)) dX7_chooses_59
    · refine lv_icmp_ne (tgt := 41) hx hb dX7_chooses_34 (by decide) (fun c_3 => ?_) (fun c_3 => ?_)
      · refine lv_iconst (v := 3) hx hb dX7_chooses_41 (by decide) ?_
        exact J_2 _ ((if_neg c_3).trans rfl).symm
      · refine lv_iconst (v := 4) hx hb dX7_chooses_37 (by decide) ?_
        refine lv_goto (tgt := 42) hx hb dX7_chooses_38 (by decide) ?_
        exact J_2 _ ((if_pos c_3).trans rfl).symm
  · refine lv_aload_n hx hb dX7_chooses_8 rfl (lv_at hl 0 rfl) ?_
    refine lv_iload_n hx hb dX7_chooses_9 rfl (lv_at hl 1 rfl) ?_
    refine lv_aload_n hx hb dX7_chooses_10 rfl (lv_at hl 0 rfl) ?_
    refine gt7_17 C hP in_X7_chooses_7 ln_X7_chooses_2 (v := (u.1 17)) rfl dX7_chooses_11 ?_
    refine jn_i (g := fun x => F0 m 22 ls (.int x :: [.ref (ad 0)])) ((if x1 = (u.1 17) then 4 else 3)) (fun y_5 ey_5 => ?_) (fun J_5 => ?_)
    · refine pt7_16 C hP hD hS in_X7_chooses_7 ln_X7_chooses_1 dX7_chooses_22 (fun H locs hP hD hS => ?_)
      refine lv_bipush (v := (-4)) hx hb dX7_chooses_25 (by decide) ?_
      subst ey_5
      exact rt_i C hr hlk hP hD hS ((if_pos c_1).trans rfl) dX7_chooses_27
    · refine lv_icmp_ne (tgt := 21) hx hb dX7_chooses_14 (by decide) (fun c_6 => ?_) (fun c_6 => ?_)
      · refine lv_iconst (v := 3) hx hb dX7_chooses_21 (by decide) ?_
        exact J_5 _ ((if_neg c_6).trans rfl).symm
      · refine lv_iconst (v := 4) hx hb dX7_chooses_17 (by decide) ?_
        refine lv_goto (tgt := 22) hx hb dX7_chooses_18 (by decide) ?_
        exact J_5 _ ((if_pos c_6).trans rfl).symm
theorem ln_X7_stops_1 : Cond.fieldLink RX7 85 "BlockCardModel" "state" "I" ∈ wsX7_stops := List.mem_of_getElem? (i := 1) rfl
theorem in_X7_stops_7 : ∀ w ∈ wsX70, w ∈ wsX7_stops := fun w h => List.mem_cons_of_mem _ (List.mem_append_right _ h)
theorem ln_X7_stops_2 : Cond.fieldLink RX7 106 "BlockCardModel" "laterMany" "I" ∈ wsX7_stops := List.mem_of_getElem? (i := 2) rfl
set_option maxHeartbeats 4000000 in
set_option maxRecDepth 100000 in
theorem c_X7_stops (l : Launch) (D : va_G) (cI cZ : ClassId) (ad : Nat → Nat) (u : ob_S)  : Ct_i l yX7_stops wsX7_stops ({ frames := 0, cells := 0, slots := 0, locals := 0 } : Room) D (ct_T cI cZ) [.ref (ad 0)] (w_7 cI ad u) (fun u => (w_7 cI ad u)) (f_X7_stops u) := by
  refine en_i (cc := cX7_stops) (maxL := 2) (ret := (some .int)) (own := RX7) (by decide +kernel) rfl rfl (Nat.le_of_ble_eq_true rfl) ?_
  intro p e s m args below meth c A ls C hr hlk hP hD hS hl
  have hx := C.1
  have hb := C.2.1
  have hl : lv_has ls 2 [(0, .ref (ad 0))] := hl
  refine lv_aload_n hx hb dX7_stops_0 rfl (lv_at hl 0 rfl) ?_
  refine gt7_16 C hP in_X7_stops_7 ln_X7_stops_1 (v := (u.1 16)) rfl dX7_stops_1 ?_
  refine lv_bipush (v := 6) hx hb dX7_stops_4 (by decide) ?_
  refine jn_i (g := fun x => F0 m 17 ls (.int x :: [])) ((if (u.1 16) = 6 then (u.1 23) else 0)) (fun y_1 ey_1 => ?_) (fun J_1 => ?_)
  · refine lv_istore_n (lv' := [(1, .int _), (0, .ref _)]) hx hb dX7_stops_17 rfl hl (by decide) rfl (fun ls hl => ?_)
    refine lv_aload_n hx hb dX7_stops_18 rfl (lv_at hl 1 rfl) ?_
    refine lv_iload_n hx hb dX7_stops_19 rfl (lv_at hl 0 rfl) ?_
    refine jn_i (g := fun x => F0 m 29 ls (.int x :: [.ref (ad 0)])) ((if y_1 ≤ 0 then 4 else 7)) (fun y_3 ey_3 => ?_) (fun J_3 => ?_)
    · refine pt7_16 C hP hD hS in_X7_stops_7 ln_X7_stops_1 dX7_stops_29 (fun H locs hP hD hS => ?_)
      refine lv_iload_n hx hb dX7_stops_32 rfl (lv_at hl 0 rfl) ?_
      subst ey_1 ey_3
      exact rt_i C hr hlk hP hD hS rfl dX7_stops_33
    · refine lv_if_le (tgt := 28) hx hb dX7_stops_20 (by decide) (fun c_4 => ?_) (fun c_4 => ?_)
      · refine lv_iconst (v := 4) hx hb dX7_stops_28 (by decide) ?_
        exact J_3 _ ((if_pos c_4).trans rfl).symm
      · refine lv_bipush (v := 7) hx hb dX7_stops_23 (by decide) ?_
        refine lv_goto (tgt := 29) hx hb dX7_stops_25 (by decide) ?_
        exact J_3 _ ((if_neg c_4).trans rfl).symm
  · refine lv_icmp_ne (tgt := 16) hx hb dX7_stops_6 (by decide) (fun c_2 => ?_) (fun c_2 => ?_)
    · refine lv_iconst (v := 0) hx hb dX7_stops_16 (by decide) ?_
      exact J_1 _ ((if_neg c_2).trans rfl).symm
    · refine lv_aload_n hx hb dX7_stops_9 rfl (lv_at hl 0 rfl) ?_
      refine gt7_23 C hP in_X7_stops_7 ln_X7_stops_2 (v := (u.1 23)) rfl dX7_stops_10 ?_
      refine lv_goto (tgt := 17) hx hb dX7_stops_13 (by decide) ?_
      exact J_1 _ ((if_pos c_2).trans rfl).symm
theorem ln_X7_status_1 : Cond.fieldLink RX7 85 "BlockCardModel" "state" "I" ∈ wsX7_status := List.mem_of_getElem? (i := 1) rfl
theorem in_X7_status_7 : ∀ w ∈ wsX70, w ∈ wsX7_status := fun w h => List.mem_cons_of_mem _ (List.mem_append_right _ h)
theorem ln_X7_status_2 : Cond.fieldLink RX7 100 "BlockCardModel" "isLocked" "Z" ∈ wsX7_status := List.mem_of_getElem? (i := 2) rfl
theorem ln_X7_status_3 : Cond.fieldLink RX7 103 "BlockCardModel" "notes" "I" ∈ wsX7_status := List.mem_of_getElem? (i := 3) rfl
set_option maxHeartbeats 4000000 in
set_option maxRecDepth 100000 in
theorem c_X7_status (l : Launch) (D : va_G) (cI cZ : ClassId) (ad : Nat → Nat) (u : ob_S)  : Ct_i l yX7_status wsX7_status ({ frames := 0, cells := 0, slots := 0, locals := 0 } : Room) D (ct_T cI cZ) [.ref (ad 0)] (w_7 cI ad u) (fun u => (w_7 cI ad u)) (f_X7_status u) := by
  refine en_i (cc := cX7_status) (maxL := 2) (ret := (some .int)) (own := RX7) (by decide +kernel) rfl rfl (Nat.le_of_ble_eq_true rfl) ?_
  intro p e s m args below meth c A ls C hr hlk hP hD hS hl
  have hx := C.1
  have hb := C.2.1
  have hl : lv_has ls 2 [(0, .ref (ad 0))] := hl
  refine lv_sipush (v := 256) hx hb dX7_status_0 (by decide) ?_
  refine lv_aload_n hx hb dX7_status_3 rfl (lv_at hl 0 rfl) ?_
  refine gt7_16 C hP in_X7_status_7 ln_X7_status_1 (v := (u.1 16)) rfl dX7_status_4 ?_
  refine lv_imul hx hb dX7_status_7 ?_
  refine lv_aload_n hx hb dX7_status_8 rfl (lv_at hl 0 rfl) ?_
  refine gt7_21 C hP in_X7_status_7 ln_X7_status_2 (v := (u.1 21)) rfl dX7_status_9 ?_
  refine jn_i (g := fun x => F0 m 22 ls (.int x :: [.int (256 * (u.1 16))])) ((if (u.1 21) = 0 then 0 else 128)) (fun y_1 ey_1 => ?_) (fun J_1 => ?_)
  · refine lv_iadd hx hb dX7_status_22 ?_
    refine lv_aload_n hx hb dX7_status_23 rfl (lv_at hl 0 rfl) ?_
    refine gt7_22 C hP in_X7_status_7 ln_X7_status_3 (v := (u.1 22)) rfl dX7_status_24 ?_
    refine lv_iadd hx hb dX7_status_27 ?_
    refine lv_istore_n (lv' := [(1, .int _), (0, .ref _)]) hx hb dX7_status_28 rfl hl (by decide) rfl (fun ls hl => ?_)
    refine lv_aload_n hx hb dX7_status_29 rfl (lv_at hl 1 rfl) ?_
    refine lv_iconst (v := 0) hx hb dX7_status_30 (by decide) ?_
    refine pt7_22 C hP hD hS in_X7_status_7 ln_X7_status_3 dX7_status_31 (fun H locs hP hD hS => ?_)
    refine lv_iload_n hx hb dX7_status_34 rfl (lv_at hl 0 rfl) ?_
    subst ey_1
    exact rt_i C hr hlk hP hD hS rfl dX7_status_35
  · refine lv_if_eq (tgt := 21) hx hb dX7_status_12 (by decide) (fun c_2 => ?_) (fun c_2 => ?_)
    · refine lv_iconst (v := 0) hx hb dX7_status_21 (by decide) ?_
      exact J_1 _ ((if_pos c_2).trans rfl).symm
    · refine lv_sipush (v := 128) hx hb dX7_status_15 (by decide) ?_
      refine lv_goto (tgt := 22) hx hb dX7_status_18 (by decide) ?_
      exact J_1 _ ((if_neg c_2).trans rfl).symm
theorem ln_X7_endsAt_1 : Cond.fieldLink RX7 121 "BlockCardModel" "begun" "I" ∈ wsX7_endsAt := List.mem_of_getElem? (i := 1) rfl
theorem in_X7_endsAt_7 : ∀ w ∈ wsX70, w ∈ wsX7_endsAt := fun w h => List.mem_cons_of_mem _ (List.mem_append_right _ h)
theorem ln_X7_endsAt_2 : Cond.fieldLink RX7 52 "BlockCardModel" "blocks" "I" ∈ wsX7_endsAt := List.mem_of_getElem? (i := 2) rfl
theorem ln_X7_endsAt_3 : Cond.fieldLink RX7 222 "BlockCardModel" "from" "I" ∈ wsX7_endsAt := List.mem_of_getElem? (i := 3) rfl
theorem ln_X7_endsAt_4 : Cond.fieldLink RX7 228 "BlockCardModel" "to" "I" ∈ wsX7_endsAt := List.mem_of_getElem? (i := 4) rfl
set_option maxHeartbeats 4000000 in
set_option maxRecDepth 100000 in
theorem c_X7_endsAt (l : Launch) (D : va_G) (cI cZ : ClassId) (ad : Nat → Nat) (u : ob_S) (x1 : Int32)  : Ct_i l yX7_endsAt wsX7_endsAt ({ frames := 1, cells := 0, slots := 0, locals := 21 } : Room) D (ct_T cI cZ) [.ref (ad 0), .int x1] (w_7 cI ad u) (fun u => (w_7 cI ad u)) (f_X7_endsAt u x1) := by
  refine en_i (cc := cX7_endsAt) (maxL := 3) (ret := (some .int)) (own := RX7) (by decide +kernel) rfl rfl (Nat.le_of_ble_eq_true rfl) ?_
  intro p e s m args below meth c A ls C hr hlk hP hD hS hl
  have hx := C.1
  have hb := C.2.1
  have hl : lv_has ls 3 [(0, .ref (ad 0)), (1, .int x1)] := hl
  refine lv_aload_n hx hb dX7_endsAt_0 rfl (lv_at hl 0 rfl) ?_
  refine gt7_32 C hP in_X7_endsAt_7 ln_X7_endsAt_1 (v := (u.1 32)) rfl dX7_endsAt_1 ?_
  refine lv_iconst (v := 1) hx hb dX7_endsAt_4 (by decide) ?_
  refine jn_i (g := fun x => F0 m 13 ls (.int x :: [])) ((if (u.1 32) = 1 then 1 else 0)) (fun y_1 ey_1 => ?_) (fun J_1 => ?_)
  · refine lv_istore_n (lv' := [(2, .int _), (0, .ref _), (1, .int _)]) hx hb dX7_endsAt_13 rfl hl (by decide) rfl (fun ls hl => ?_)
    refine lv_aload_n hx hb dX7_endsAt_14 rfl (lv_at hl 1 rfl) ?_
    refine lv_iconst (v := 0) hx hb dX7_endsAt_15 (by decide) ?_
    refine pt7_32 C hP hD hS in_X7_endsAt_7 ln_X7_endsAt_1 dX7_endsAt_16 (fun H locs hP hD hS => ?_)
    refine lv_iload_n hx hb dX7_endsAt_19 rfl (lv_at hl 2 rfl) ?_
    refine lv_aload_n hx hb dX7_endsAt_20 rfl (lv_at hl 1 rfl) ?_
    refine gt7_3 C hP in_X7_endsAt_7 ln_X7_endsAt_2 (v := (u.1 3)) rfl dX7_endsAt_21 ?_
    refine lv_icmp_lt (tgt := 33) hx hb dX7_endsAt_24 (by decide) (fun c_3 => ?_) (fun c_3 => ?_)
    · refine lv_iload_n hx hb dX7_endsAt_33 rfl (lv_at hl 0 rfl) ?_
      refine lv_if_eq (tgt := 45) hx hb dX7_endsAt_34 (by decide) (fun c_4 => ?_) (fun c_4 => ?_)
      · refine lv_aload_n hx hb dX7_endsAt_45 rfl (lv_at hl 1 rfl) ?_
        refine lv_bipush (v := 8) hx hb dX7_endsAt_46 (by decide) ?_
        refine kv_i C (c_X7_noting l D cI cZ ad (ob_i u 32 0) 8 ) (cwV 1 C.2.2.2.2.1 gX7_endsAt_X7_noting rfl rfl rfl hdX7_noting ⟨Nat.le_of_ble_eq_true rfl, Nat.le_of_ble_eq_true rfl⟩) (ci := 7) (q0 := 0) rfl rfl rfl hP hD hS (sp_self (fun u => (w_7 cI ad u)) 9 (fun _ => rfl)) rfl hl.1 rfl (Nat.le_of_ble_eq_true rfl) dX7_endsAt_48 ⟨Nat.zero_le _, Nat.zero_le _⟩ (fun H locs hP hD hS => ?_)
        subst ey_1
        exact rt_i C hr hlk hP hD hS ((if_pos c_3).trans ((if_pos c_4).trans rfl)) dX7_endsAt_51
      · refine lv_iload_n hx hb dX7_endsAt_37 rfl (lv_at hl 2 rfl) ?_
        refine lv_aload_n hx hb dX7_endsAt_38 rfl (lv_at hl 1 rfl) ?_
        refine gt7_33 C hP in_X7_endsAt_7 ln_X7_endsAt_3 (v := (u.1 33)) rfl dX7_endsAt_39 ?_
        refine lv_icmp_ge (tgt := 52) hx hb dX7_endsAt_42 (by decide) (fun c_6 => ?_) (fun c_6 => ?_)
        · refine lv_aload_n hx hb dX7_endsAt_52 rfl (lv_at hl 1 rfl) ?_
          refine lv_iload_n hx hb dX7_endsAt_53 rfl (lv_at hl 2 rfl) ?_
          refine pt7_34 C hP hD hS in_X7_endsAt_7 ln_X7_endsAt_4 dX7_endsAt_54 (fun H locs hP hD hS => ?_)
          refine lv_aload_n hx hb dX7_endsAt_57 rfl (lv_at hl 1 rfl) ?_
          refine lv_iconst (v := 2) hx hb dX7_endsAt_58 (by decide) ?_
          refine pt7_32 C hP hD hS in_X7_endsAt_7 ln_X7_endsAt_1 dX7_endsAt_59 (fun H locs hP hD hS => ?_)
          refine lv_iconst (v := 0) hx hb dX7_endsAt_62 (by decide) ?_
          subst ey_1
          exact rt_i C hr hlk hP hD hS ((if_pos c_3).trans ((if_neg c_4).trans ((if_pos c_6).trans rfl))) dX7_endsAt_63
        · refine lv_aload_n hx hb dX7_endsAt_45 rfl (lv_at hl 1 rfl) ?_
          refine lv_bipush (v := 8) hx hb dX7_endsAt_46 (by decide) ?_
          refine kv_i C (c_X7_noting l D cI cZ ad (ob_i u 32 0) 8 ) (cwV 1 C.2.2.2.2.1 gX7_endsAt_X7_noting rfl rfl rfl hdX7_noting ⟨Nat.le_of_ble_eq_true rfl, Nat.le_of_ble_eq_true rfl⟩) (ci := 7) (q0 := 0) rfl rfl rfl hP hD hS (sp_self (fun u => (w_7 cI ad u)) 9 (fun _ => rfl)) rfl hl.1 rfl (Nat.le_of_ble_eq_true rfl) dX7_endsAt_48 ⟨Nat.zero_le _, Nat.zero_le _⟩ (fun H locs hP hD hS => ?_)
          subst ey_1
          exact rt_i C hr hlk hP hD hS ((if_pos c_3).trans ((if_neg c_4).trans ((if_neg c_6).trans rfl))) dX7_endsAt_51
    · refine lv_aload_n hx hb dX7_endsAt_27 rfl (lv_at hl 1 rfl) ?_
      refine lv_iconst (v := 4) hx hb dX7_endsAt_28 (by decide) ?_
      refine kv_i C (c_X7_noting l D cI cZ ad (ob_i u 32 0) 4 ) (cwV 1 C.2.2.2.2.1 gX7_endsAt_X7_noting rfl rfl rfl hdX7_noting ⟨Nat.le_of_ble_eq_true rfl, Nat.le_of_ble_eq_true rfl⟩) (ci := 7) (q0 := 0) rfl rfl rfl hP hD hS (sp_self (fun u => (w_7 cI ad u)) 9 (fun _ => rfl)) rfl hl.1 rfl (Nat.le_of_ble_eq_true rfl) dX7_endsAt_29 ⟨Nat.zero_le _, Nat.zero_le _⟩ (fun H locs hP hD hS => ?_)
      subst ey_1
      exact rt_i C hr hlk hP hD hS ((if_neg c_3).trans rfl) dX7_endsAt_32
  · refine lv_icmp_ne (tgt := 12) hx hb dX7_endsAt_5 (by decide) (fun c_2 => ?_) (fun c_2 => ?_)
    · refine lv_iconst (v := 0) hx hb dX7_endsAt_12 (by decide) ?_
      exact J_1 _ ((if_neg c_2).trans rfl).symm
    · refine lv_iconst (v := 1) hx hb dX7_endsAt_8 (by decide) ?_
      refine lv_goto (tgt := 13) hx hb dX7_endsAt_9 (by decide) ?_
      exact J_1 _ ((if_pos c_2).trans rfl).symm
theorem ln_X7_erasesGroups_1 : Cond.fieldLink RX7 141 "BlockCardModel" "eraseFrom" "I" ∈ wsX7_erasesGroups := List.mem_of_getElem? (i := 1) rfl
theorem in_X7_erasesGroups_7 : ∀ w ∈ wsX70, w ∈ wsX7_erasesGroups := fun w h => List.mem_cons_of_mem _ (List.mem_append_right _ h)
theorem ln_X7_erasesGroups_2 : Cond.fieldLink RX7 109 "BlockCardModel" "eraseMany" "I" ∈ wsX7_erasesGroups := List.mem_of_getElem? (i := 2) rfl
theorem ln_X7_erasesGroups_3 : Cond.fieldLink RX7 112 "BlockCardModel" "eraseTicks" "I" ∈ wsX7_erasesGroups := List.mem_of_getElem? (i := 3) rfl
theorem ln_X7_erasesGroups_4 : Cond.fieldLink RX7 85 "BlockCardModel" "state" "I" ∈ wsX7_erasesGroups := List.mem_of_getElem? (i := 4) rfl
set_option maxHeartbeats 4000000 in
set_option maxRecDepth 100000 in
theorem c_X7_erasesGroups (l : Launch) (D : va_G) (cI cZ : ClassId) (ad : Nat → Nat) (u : ob_S) (x1 : Int32) (x2 : Int32)  : Ct_i l yX7_erasesGroups wsX7_erasesGroups ({ frames := 0, cells := 0, slots := 0, locals := 0 } : Room) D (ct_T cI cZ) [.ref (ad 0), .int x1, .int x2] (w_7 cI ad u) (fun u => (w_7 cI ad u)) (f_X7_erasesGroups u x1 x2) := by
  refine en_i (cc := cX7_erasesGroups) (maxL := 3) (ret := (some .int)) (own := RX7) (by decide +kernel) rfl rfl (Nat.le_of_ble_eq_true rfl) ?_
  intro p e s m args below meth c A ls C hr hlk hP hD hS hl
  have hx := C.1
  have hb := C.2.1
  have hl : lv_has ls 3 [(0, .ref (ad 0)), (1, .int x1), (2, .int x2)] := hl
  refine lv_aload_n hx hb dX7_erasesGroups_0 rfl (lv_at hl 0 rfl) ?_
  refine lv_iload_n hx hb dX7_erasesGroups_1 rfl (lv_at hl 1 rfl) ?_
  refine pt7_27 C hP hD hS in_X7_erasesGroups_7 ln_X7_erasesGroups_1 dX7_erasesGroups_2 (fun H locs hP hD hS => ?_)
  refine lv_aload_n hx hb dX7_erasesGroups_5 rfl (lv_at hl 0 rfl) ?_
  refine lv_iload_n hx hb dX7_erasesGroups_6 rfl (lv_at hl 2 rfl) ?_
  refine pt7_28 C hP hD hS in_X7_erasesGroups_7 ln_X7_erasesGroups_2 dX7_erasesGroups_7 (fun H locs hP hD hS => ?_)
  refine lv_aload_n hx hb dX7_erasesGroups_10 rfl (lv_at hl 0 rfl) ?_
  refine lv_iconst (v := 0) hx hb dX7_erasesGroups_11 (by decide) ?_
  refine pt7_29 C hP hD hS in_X7_erasesGroups_7 ln_X7_erasesGroups_3 dX7_erasesGroups_12 (fun H locs hP hD hS => ?_)
  refine lv_aload_n hx hb dX7_erasesGroups_15 rfl (lv_at hl 0 rfl) ?_
  refine lv_bipush (v := 7) hx hb dX7_erasesGroups_16 (by decide) ?_
  refine pt7_16 C hP hD hS in_X7_erasesGroups_7 ln_X7_erasesGroups_4 dX7_erasesGroups_18 (fun H locs hP hD hS => ?_)
  refine lv_iload_n hx hb dX7_erasesGroups_21 rfl (lv_at hl 2 rfl) ?_
  exact rt_i C hr hlk hP hD hS rfl dX7_erasesGroups_22
theorem ln_X7_isWord_1 : Cond.fieldLink RX7 159 "BlockCardModel" "length" "I" ∈ wsX7_isWord := List.mem_of_getElem? (i := 1) rfl
theorem in_X7_isWord_7 : ∀ w ∈ wsX70, w ∈ wsX7_isWord := fun w h => List.mem_cons_of_mem _ (List.mem_append_right _ h)
theorem ln_X7_isWord_2 : Cond.fieldLink RX7 71 "BlockCardModel" "wordLong" "I" ∈ wsX7_isWord := List.mem_of_getElem? (i := 2) rfl
theorem ln_X7_isWord_3 : Cond.fieldLink RX7 7 "BlockCardModel" "text" "[I" ∈ wsX7_isWord := List.mem_of_getElem? (i := 3) rfl
theorem ln_X7_isWord_4 : Cond.fieldLink RX7 19 "BlockCardModel" "word" "[I" ∈ wsX7_isWord := List.mem_of_getElem? (i := 4) rfl
set_option maxHeartbeats 4000000 in
set_option maxRecDepth 100000 in
theorem lp_X7_isWord_21 {p : Program} {l : Launch} {e : Env} {s : State} {m : MethodId} {args : Array Value} {below : List Frame} {meth : Method} {c : Code} {D : va_G} {A : Nat → Prop} {cI cZ : ClassId} {ad : Nat → Nat} {u : ob_S} {F : Int32} (C : cx_C p c cX7_isWord 5 s m args wsX7_isWord RX7 D (ct_T cI cZ) A) (hr : meth.sig.returnType = some .boolean) (hlk : meth.locks = false) (hD : va_D (fun _ => True) (w_7 cI ad u)) (hw : (u.1 11).toInt ≤ 8) : ∀ (n : Nat) (x3 : Int32) (x4 : Int32) (H : Heap) (locs : List Loc) (ls : Array Slot), 8 - x4.toInt < (n : Int) → 0 ≤ x4.toInt ∧ x4.toInt ≤ 8 → x3 = 0 ∨ x3 = 1 → F = k_X7_isWord_21 u n x3 x4 → va_P D vwCl (w_7 cI ad u) H → va_S A s.heap H locs → lv_has ls 5 [(0, .ref (ad 0)), (3, .int x3), (4, .int x4)] → W p l e ({ frames := 1, cells := 0, slots := 0, locals := 25 } : Room) s m args below meth c H locs 0 0 (MQ below (ct_Qp D (ct_T cI cZ) F A) args s 0 0 A) (F0 m 21 ls []) := by
  have hx := C.1
  have hb := C.2.1
  intro n
  induction n with
  | zero =>
    intro x3 x4 H locs ls i0 i1 i2
    exact absurd i0 (by omega)
  | succ n ih =>
    intro x3 x4 H locs ls i0 i1 i2 hF hP hS hl
    refine lv_iload hx hb dX7_isWord_21 (lv_at hl 2 rfl) ?_
    refine lv_aload_n hx hb dX7_isWord_23 rfl (lv_at hl 0 rfl) ?_
    refine gt7_11 C hP in_X7_isWord_7 ln_X7_isWord_2 (v := (u.1 11)) rfl dX7_isWord_24 ?_
    refine lv_icmp_ge (tgt := 63) hx hb dX7_isWord_27 (by decide) (fun c_1 => ?_) (fun c_1 => ?_)
    · refine lv_iload_n hx hb dX7_isWord_63 rfl (lv_at hl 1 rfl) ?_
      exact rt_q C hr hlk i2 hS (hF.trans ((if_pos c_1).trans rfl)) dX7_isWord_64
    · refine lv_iload_n hx hb dX7_isWord_30 rfl (lv_at hl 1 rfl) ?_
      refine lv_if_eq (tgt := 63) hx hb dX7_isWord_31 (by decide) (fun c_2 => ?_) (fun c_2 => ?_)
      · refine lv_iload_n hx hb dX7_isWord_63 rfl (lv_at hl 1 rfl) ?_
        exact rt_q C hr hlk i2 hS (hF.trans ((if_neg c_1).trans ((if_pos c_2).trans rfl))) dX7_isWord_64
      · refine lv_aload_n hx hb dX7_isWord_34 rfl (lv_at hl 0 rfl) ?_
        refine gt7_1 C hP in_X7_isWord_7 ln_X7_isWord_3 dX7_isWord_35 ?_
        refine lv_iload hx hb dX7_isWord_38 (lv_at hl 2 rfl) ?_
        refine al7_1 C hP (ix_c (n := 200) (by omega) (by have h := nle_t c_1; omega)) (v := (u.2 1 (Int32.toNatClampNeg x4))) rfl dX7_isWord_40 ?_
        refine lv_aload_n hx hb dX7_isWord_41 rfl (lv_at hl 0 rfl) ?_
        refine gt7_12 C hP in_X7_isWord_7 ln_X7_isWord_4 dX7_isWord_42 ?_
        refine lv_iload hx hb dX7_isWord_45 (lv_at hl 2 rfl) ?_
        refine al7_12 C hP (ix_c (n := 8) (by omega) (by have h := nle_t c_1; omega)) (v := (u.2 12 (Int32.toNatClampNeg x4))) rfl dX7_isWord_47 ?_
        refine jn_i (g := fun x => F0 m 56 ls (.int x :: [])) ((if (u.2 1 (Int32.toNatClampNeg x4)) = (u.2 12 (Int32.toNatClampNeg x4)) then 1 else 0)) (fun y_3 ey_3 => ?_) (fun J_3 => ?_)
        · refine lv_istore_n (lv' := [(3, .int _), (0, .ref _), (4, .int _)]) hx hb dX7_isWord_56 rfl hl (by decide) rfl (fun ls hl => ?_)
          refine lv_iinc (v := (x4 + 1)) (lv' := [(4, .int _), (3, .int _), (0, .ref _)]) hx hb dX7_isWord_57 hl (k := 2) rfl rfl (by decide) rfl (fun ls hl => ?_)
          refine lv_goto (tgt := 21) hx hb dX7_isWord_60 (by decide) ?_
          subst ey_3
          exact ih _ _   _ _ _ (by have h := nle_t c_1; have h2 := inc_b (n := 8) (x := x4) (by omega) (by decide); omega) (by have h := nle_t c_1; have h2 := inc_b (n := 8) (x := x4) (by omega) (by decide); omega) (bz_ite (Or.inr rfl) (Or.inl rfl)) (hF.trans ((if_neg c_1).trans ((if_neg c_2).trans rfl))) hP hS (lv_sub hl [2, 1, 0] rfl)
        · refine lv_icmp_ne (tgt := 55) hx hb dX7_isWord_48 (by decide) (fun c_4 => ?_) (fun c_4 => ?_)
          · refine lv_iconst (v := 0) hx hb dX7_isWord_55 (by decide) ?_
            exact J_3 _ ((if_neg c_4).trans rfl).symm
          · refine lv_iconst (v := 1) hx hb dX7_isWord_51 (by decide) ?_
            refine lv_goto (tgt := 56) hx hb dX7_isWord_52 (by decide) ?_
            exact J_3 _ ((if_pos c_4).trans rfl).symm
set_option maxHeartbeats 4000000 in
set_option maxRecDepth 100000 in
theorem c_X7_isWord (l : Launch) (D : va_G) (cI cZ : ClassId) (ad : Nat → Nat) (u : ob_S) (x1 : Int32) (x2 : Int32) (hw : (u.1 11).toInt ≤ 8) : Ct_p l yX7_isWord wsX7_isWord ({ frames := 1, cells := 0, slots := 0, locals := 25 } : Room) D (ct_T cI cZ) [.ref (ad 0), .int x1, .int x2] (w_7 cI ad u) (f_X7_isWord u x1 x2) := by
  refine en_p (cc := cX7_isWord) (maxL := 5) (ret := (some .boolean)) (own := RX7) (by decide +kernel) rfl rfl (Nat.le_of_ble_eq_true rfl) ?_
  intro p e s m args below meth c A ls C hr hlk hP hD hS hl
  have hx := C.1
  have hb := C.2.1
  have hl : lv_has ls 5 [(0, .ref (ad 0)), (1, .int x1), (2, .int x2)] := hl
  refine lv_aload_n hx hb dX7_isWord_0 rfl (lv_at hl 0 rfl) ?_
  refine gt7_0 C hP in_X7_isWord_7 ln_X7_isWord_1 (v := (u.1 0)) rfl dX7_isWord_1 ?_
  refine lv_aload_n hx hb dX7_isWord_4 rfl (lv_at hl 0 rfl) ?_
  refine gt7_11 C hP in_X7_isWord_7 ln_X7_isWord_2 (v := (u.1 11)) rfl dX7_isWord_5 ?_
  refine lv_isub hx hb dX7_isWord_8 ?_
  refine lv_i2l hx hb dX7_isWord_9 rfl ?_
  refine lv_iload_n hx hb dX7_isWord_10 rfl (lv_at hl 1 rfl) ?_
  refine lv_i2l hx hb dX7_isWord_11 rfl ?_
  refine lv_iload_n hx hb dX7_isWord_12 rfl (lv_at hl 2 rfl) ?_
  refine lv_i2l hx hb dX7_isWord_13 rfl ?_
  refine ks_p C (c_X7_in l D cI cZ (Int32.toInt64 ((u.1 0) - (u.1 11))) (Int32.toInt64 x1) (Int32.toInt64 x2) ) (va_cwS 3 C.2.2.2.2.1 gX7_isWord_X7_in rfl rfl rfl hdX7_in ⟨Nat.le_of_ble_eq_true rfl, Nat.le_of_ble_eq_true rfl⟩) hP hD hS rfl hl.1 rfl (Nat.le_of_ble_eq_true rfl) dX7_isWord_14 ⟨Nat.zero_le _, Nat.zero_le _⟩ (fun H locs hP hS => ?_)
  refine lv_istore_n (lv' := [(3, .int _), (0, .ref _), (1, .int _), (2, .int _)]) hx hb dX7_isWord_17 rfl hl (by decide) rfl (fun ls hl => ?_)
  refine lv_iconst (v := 0) hx hb dX7_isWord_18 (by decide) ?_
  refine lv_istore (lv' := [(4, .int _), (3, .int _), (0, .ref _), (1, .int _), (2, .int _)]) hx hb dX7_isWord_19 hl (by decide) rfl (fun ls hl => ?_)
  exact lp_X7_isWord_21 C hr hlk hD hw 9 (f_X7_in (Int32.toInt64 ((u.1 0) - (u.1 11))) (Int32.toInt64 x1) (Int32.toInt64 x2)) 0 _ _ _ (by decide) (by decide) (bz_X7_in _ _ _) rfl hP hS (lv_sub hl [2, 1, 0] rfl)
theorem ln_X7_sets_1 : Cond.fieldLink RX7 100 "BlockCardModel" "isLocked" "Z" ∈ wsX7_sets := List.mem_of_getElem? (i := 1) rfl
theorem in_X7_sets_7 : ∀ w ∈ wsX70, w ∈ wsX7_sets := fun w h => List.mem_cons_of_mem _ (List.mem_append_right _ h)
theorem ln_X7_sets_2 : Cond.fieldLink RX7 71 "BlockCardModel" "wordLong" "I" ∈ wsX7_sets := List.mem_of_getElem? (i := 2) rfl
theorem ln_X7_sets_3 : Cond.fieldLink RX7 159 "BlockCardModel" "length" "I" ∈ wsX7_sets := List.mem_of_getElem? (i := 3) rfl
theorem ln_X7_sets_4 : Cond.fieldLink RX7 19 "BlockCardModel" "word" "[I" ∈ wsX7_sets := List.mem_of_getElem? (i := 4) rfl
theorem ln_X7_sets_5 : Cond.fieldLink RX7 7 "BlockCardModel" "text" "[I" ∈ wsX7_sets := List.mem_of_getElem? (i := 5) rfl
set_option maxHeartbeats 4000000 in
set_option maxRecDepth 100000 in
theorem lp_X7_sets_36 {p : Program} {l : Launch} {e : Env} {s : State} {m : MethodId} {args : Array Value} {below : List Frame} {meth : Method} {c : Code} {D : va_G} {A : Nat → Prop} {cI cZ : ClassId} {ad : Nat → Nat} {x1 : Int32} {F : Int32 × ob_S} (C : cx_C p c cX7_sets 3 s m args wsX7_sets RX7 D (ct_T cI cZ) A) (hr : meth.sig.returnType = some .boolean) (hlk : meth.locks = false)  : ∀ (n : Nat) (x2 : Int32) (u : ob_S) (H : Heap) (locs : List Loc) (ls : Array Slot), 8 - x2.toInt < (n : Int) → 0 ≤ x2.toInt ∧ x2.toInt ≤ 8 → (u.1 11).toInt ≤ 8 ∧ 0 ≤ x1.toInt ∧ x1.toInt + (u.1 11).toInt ≤ 200 → F = k_X7_sets_36 x1 n x2 u → va_P D vwCl (w_7 cI ad u) H → va_D A (w_7 cI ad u) → va_S A s.heap H locs → lv_has ls 3 [(0, .ref (ad 0)), (1, .int x1), (2, .int x2)] → W p l e ({ frames := 2, cells := 0, slots := 0, locals := 49 } : Room) s m args below meth c H locs 0 0 (MQ below (ct_Qi D (ct_T cI cZ) (fun u => (w_7 cI ad u)) F A) args s 0 0 A) (F0 m 36 ls []) := by
  have hx := C.1
  have hb := C.2.1
  intro n
  induction n with
  | zero =>
    intro x2 u H locs ls i0 i1 i2
    exact absurd i0 (by omega)
  | succ n ih =>
    intro x2 u H locs ls i0 i1 i2 hF hP hD hS hl
    refine lv_iload_n hx hb dX7_sets_36 rfl (lv_at hl 2 rfl) ?_
    refine lv_aload_n hx hb dX7_sets_37 rfl (lv_at hl 0 rfl) ?_
    refine gt7_11 C hP in_X7_sets_7 ln_X7_sets_2 (v := (u.1 11)) rfl dX7_sets_38 ?_
    refine lv_icmp_ge (tgt := 64) hx hb dX7_sets_41 (by decide) (fun c_3 => ?_) (fun c_3 => ?_)
    · refine lv_iconst (v := 1) hx hb dX7_sets_64 (by decide) ?_
      exact rt_z C hr hlk (Or.inr rfl) hP hD hS (hF.trans ((if_pos c_3).trans rfl)) dX7_sets_65
    · refine lv_aload_n hx hb dX7_sets_44 rfl (lv_at hl 0 rfl) ?_
      refine gt7_12 C hP in_X7_sets_7 ln_X7_sets_4 dX7_sets_45 ?_
      refine lv_iload_n hx hb dX7_sets_48 rfl (lv_at hl 2 rfl) ?_
      refine lv_aload_n hx hb dX7_sets_49 rfl (lv_at hl 0 rfl) ?_
      refine gt7_1 C hP in_X7_sets_7 ln_X7_sets_5 dX7_sets_50 ?_
      refine lv_iload_n hx hb dX7_sets_53 rfl (lv_at hl 1 rfl) ?_
      refine lv_iload_n hx hb dX7_sets_54 rfl (lv_at hl 2 rfl) ?_
      refine lv_iadd hx hb dX7_sets_55 ?_
      refine al7_1 C hP (ix_c (n := 200) (by have h := nle_t c_3; rw [Jvm.Kit.i32_add (by omega) (by omega)]; omega) (by have h := nle_t c_3; rw [Jvm.Kit.i32_add (by omega) (by omega)]; omega)) (v := (u.2 1 (Int32.toNatClampNeg (x1 + x2)))) rfl dX7_sets_56 ?_
      refine as7_12 C hP hD hS (ix_c (n := 8) (by omega) (by have h := nle_t c_3; omega)) dX7_sets_57 (fun H locs hP hD hS => ?_)
      refine lv_iinc (v := (x2 + 1)) (lv' := [(2, .int _), (0, .ref _), (1, .int _)]) hx hb dX7_sets_58 hl (k := 2) rfl rfl (by decide) rfl (fun ls hl => ?_)
      refine lv_goto (tgt := 36) hx hb dX7_sets_61 (by decide) ?_
      exact ih (x2 + 1) (ob_a u 12 (Int32.toNatClampNeg x2) (u.2 1 (Int32.toNatClampNeg (x1 + x2))))  _ _ _ (by have h := nle_t c_3; have h2 := inc_b (n := 8) (x := x2) (by omega) (by decide); omega) (by have h := nle_t c_3; have h2 := inc_b (n := 8) (x := x2) (by omega) (by decide); omega) i2 (hF.trans ((if_neg c_3).trans rfl)) hP hD hS (lv_sub hl [1, 2, 0] rfl)
set_option maxHeartbeats 4000000 in
set_option maxRecDepth 100000 in
theorem c_X7_sets (l : Launch) (D : va_G) (cI cZ : ClassId) (ad : Nat → Nat) (u : ob_S) (hw : 0 ≤ (u.1 11).toInt ∧ (u.1 11).toInt ≤ 8) (hlen : (u.1 0).toInt ≤ 200) : Ct_i l yX7_sets wsX7_sets ({ frames := 2, cells := 0, slots := 0, locals := 49 } : Room) D (ct_T cI cZ) [.ref (ad 0)] (w_7 cI ad u) (fun u => (w_7 cI ad u)) (f_X7_sets u) := by
  refine en_i (cc := cX7_sets) (maxL := 3) (ret := (some .boolean)) (own := RX7) (by decide +kernel) rfl rfl (Nat.le_of_ble_eq_true rfl) ?_
  intro p e s m args below meth c A ls C hr hlk hP hD hS hl
  have hx := C.1
  have hb := C.2.1
  have hl : lv_has ls 3 [(0, .ref (ad 0))] := hl
  refine lv_aload_n hx hb dX7_sets_0 rfl (lv_at hl 0 rfl) ?_
  refine gt7_21 C hP in_X7_sets_7 ln_X7_sets_1 (v := (u.1 21)) rfl dX7_sets_1 ?_
  refine lv_if_ne (tgt := 17) hx hb dX7_sets_4 (by decide) (fun c_1 => ?_) (fun c_1 => ?_)
  · refine lv_iconst (v := 0) hx hb dX7_sets_17 (by decide) ?_
    exact rt_z C hr hlk (Or.inl rfl) hP hD hS ((if_neg c_1).trans rfl) dX7_sets_18
  · refine lv_aload_n hx hb dX7_sets_7 rfl (lv_at hl 0 rfl) ?_
    refine lv_iconst (v := 1) hx hb dX7_sets_8 (by decide) ?_
    refine lv_bipush (v := 8) hx hb dX7_sets_9 (by decide) ?_
    refine kv_p C (c_X7_isWord l D cI cZ ad u 1 8 hw.2) (cwV 2 C.2.2.2.2.1 gX7_sets_X7_isWord rfl rfl rfl hdX7_isWord ⟨Nat.le_of_ble_eq_true rfl, Nat.le_of_ble_eq_true rfl⟩) (ci := 7) (q0 := 0) rfl rfl rfl hP hD hS (su_self _) rfl hl.1 rfl (Nat.le_of_ble_eq_true rfl) dX7_sets_11 ⟨Nat.zero_le _, Nat.zero_le _⟩ (fun H locs hP hS => ?_)
    refine lv_if_ne (tgt := 19) hx hb dX7_sets_14 (by decide) (fun c_2 => ?_) (fun c_2 => ?_)
    · refine lv_aload_n hx hb dX7_sets_19 rfl (lv_at hl 0 rfl) ?_
      refine gt7_11 C hP in_X7_sets_7 ln_X7_sets_2 (v := (u.1 11)) rfl dX7_sets_20 ?_
      refine lv_istore_n (lv' := [(1, .int _), (0, .ref _)]) hx hb dX7_sets_23 rfl hl (by decide) rfl (fun ls hl => ?_)
      refine lv_aload_n hx hb dX7_sets_24 rfl (lv_at hl 1 rfl) ?_
      refine lv_aload_n hx hb dX7_sets_25 rfl (lv_at hl 1 rfl) ?_
      refine gt7_0 C hP in_X7_sets_7 ln_X7_sets_3 (v := (u.1 0)) rfl dX7_sets_26 ?_
      refine lv_iload_n hx hb dX7_sets_29 rfl (lv_at hl 0 rfl) ?_
      refine lv_isub hx hb dX7_sets_30 ?_
      refine pt7_11 C hP hD hS in_X7_sets_7 ln_X7_sets_2 dX7_sets_31 (fun H locs hP hD hS => ?_)
      refine lv_iconst (v := 0) hx hb dX7_sets_34 (by decide) ?_
      refine lv_istore_n (lv' := [(2, .int _), (1, .int _), (0, .ref _)]) hx hb dX7_sets_35 rfl hl (by decide) rfl (fun ls hl => ?_)
      exact lp_X7_sets_36 C hr hlk  9 0 (ob_i u 11 ((u.1 0) - (u.1 11))) _ _ _ (by decide) (by decide) (iw_in hw hlen c_2) ((if_pos c_1).trans ((if_neg c_2).trans rfl)) hP hD hS (lv_sub hl [2, 1, 0] rfl)
    · refine lv_iconst (v := 0) hx hb dX7_sets_17 (by decide) ?_
      exact rt_z C hr hlk (Or.inl rfl) hP hD hS ((if_pos c_1).trans ((if_pos c_2).trans rfl)) dX7_sets_18
theorem ln_X7_blocksThat_1 : Cond.fieldLink RX7 52 "BlockCardModel" "blocks" "I" ∈ wsX7_blocksThat := List.mem_of_getElem? (i := 1) rfl
theorem in_X7_blocksThat_7 : ∀ w ∈ wsX70, w ∈ wsX7_blocksThat := fun w h => List.mem_cons_of_mem _ (List.mem_append_right _ h)
theorem ln_X7_blocksThat_3 : Cond.fieldLink RX7 13 "BlockCardModel" "content" "[I" ∈ wsX7_blocksThat := List.mem_of_getElem? (i := 3) rfl
theorem ln_X7_blocksThat_4 : Cond.constant RX7 77 (65535) ∈ wsX7_blocksThat := List.mem_of_getElem? (i := 4) rfl
theorem ln_X7_blocksThat_2 : Cond.fieldLink RX7 16 "BlockCardModel" "torn" "[I" ∈ wsX7_blocksThat := List.mem_of_getElem? (i := 2) rfl
set_option maxHeartbeats 4000000 in
set_option maxRecDepth 100000 in
theorem lp_X7_blocksThat_4 {p : Program} {l : Launch} {e : Env} {s : State} {m : MethodId} {args : Array Value} {below : List Frame} {meth : Method} {c : Code} {D : va_G} {A : Nat → Prop} {cI cZ : ClassId} {ad : Nat → Nat} {u : ob_S} {x1 : Int32} {F : Int32} (C : cx_C p c cX7_blocksThat 4 s m args wsX7_blocksThat RX7 D (ct_T cI cZ) A) (hr : meth.sig.returnType = some .int) (hlk : meth.locks = false) (hD : va_D (fun _ => True) (w_7 cI ad u)) (hB : (u.1 3).toInt ≤ 64) : ∀ (n : Nat) (x2 : Int32) (x3 : Int32) (H : Heap) (locs : List Loc) (ls : Array Slot), 64 - x3.toInt < (n : Int) → 0 ≤ x3.toInt ∧ x3.toInt ≤ 64 → F = k_X7_blocksThat_4 u x1 n x2 x3 → va_P D vwCl (w_7 cI ad u) H → va_S A s.heap H locs → lv_has ls 4 [(0, .ref (ad 0)), (1, .int x1), (2, .int x2), (3, .int x3)] → W p l e ({ frames := 0, cells := 0, slots := 0, locals := 0 } : Room) s m args below meth c H locs 0 0 (MQ below (ct_Qp D (ct_T cI cZ) F A) args s 0 0 A) (F0 m 4 ls []) := by
  have hx := C.1
  have hb := C.2.1
  intro n
  induction n with
  | zero =>
    intro x2 x3 H locs ls i0 i1
    exact absurd i0 (by omega)
  | succ n ih =>
    intro x2 x3 H locs ls i0 i1 hF hP hS hl
    refine lv_iload_n hx hb dX7_blocksThat_4 rfl (lv_at hl 3 rfl) ?_
    refine lv_aload_n hx hb dX7_blocksThat_5 rfl (lv_at hl 0 rfl) ?_
    refine gt7_3 C hP in_X7_blocksThat_7 ln_X7_blocksThat_1 (v := (u.1 3)) rfl dX7_blocksThat_6 ?_
    refine lv_icmp_ge (tgt := 50) hx hb dX7_blocksThat_9 (by decide) (fun c_1 => ?_) (fun c_1 => ?_)
    · refine lv_iload_n hx hb dX7_blocksThat_50 rfl (lv_at hl 2 rfl) ?_
      exact rt_p C hr hlk hS (hF.trans ((if_pos c_1).trans rfl)) dX7_blocksThat_51
    · refine lv_iload_n hx hb dX7_blocksThat_12 rfl (lv_at hl 2 rfl) ?_
      refine lv_iload_n hx hb dX7_blocksThat_13 rfl (lv_at hl 1 rfl) ?_
      refine lv_if_eq (tgt := 26) hx hb dX7_blocksThat_14 (by decide) (fun c_2 => ?_) (fun c_2 => ?_)
      · refine lv_aload_n hx hb dX7_blocksThat_26 rfl (lv_at hl 0 rfl) ?_
        refine gt7_9 C hP in_X7_blocksThat_7 ln_X7_blocksThat_3 dX7_blocksThat_27 ?_
        refine lv_iload_n hx hb dX7_blocksThat_30 rfl (lv_at hl 3 rfl) ?_
        refine al7_9 C hP (ix_c (n := 64) (by omega) (by have h := nle_t c_1; omega)) (v := (u.2 9 (Int32.toNatClampNeg x3))) rfl dX7_blocksThat_31 ?_
        refine lv_ldc (v := 65535) hx hb C.2.2.2.1 (C.2.2.2.2.1 _ ln_X7_blocksThat_4) dX7_blocksThat_32 ?_
        refine jn_i (g := fun x => F0 m 42 ls (.int x :: [.int x2])) ((if (u.2 9 (Int32.toNatClampNeg x3)) = 65535 then 0 else 1)) (fun y_3 ey_3 => ?_) (fun J_3 => ?_)
        · refine lv_iadd hx hb dX7_blocksThat_42 ?_
          refine lv_istore_n (lv' := [(2, .int _), (0, .ref _), (1, .int _), (3, .int _)]) hx hb dX7_blocksThat_43 rfl hl (by decide) rfl (fun ls hl => ?_)
          refine lv_iinc (v := (x3 + 1)) (lv' := [(3, .int _), (2, .int _), (0, .ref _), (1, .int _)]) hx hb dX7_blocksThat_44 hl (k := 3) rfl rfl (by decide) rfl (fun ls hl => ?_)
          refine lv_goto (tgt := 4) hx hb dX7_blocksThat_47 (by decide) ?_
          subst ey_3
          exact ih _ _   _ _ _ (by have h := nle_t c_1; have h2 := inc_b (n := 64) (x := x3) (by omega) (by decide); omega) (by have h := nle_t c_1; have h2 := inc_b (n := 64) (x := x3) (by omega) (by decide); omega) (hF.trans ((if_neg c_1).trans ((if_pos c_2).trans rfl))) hP hS (lv_sub hl [2, 3, 1, 0] rfl)
        · refine lv_icmp_eq (tgt := 41) hx hb dX7_blocksThat_34 (by decide) (fun c_4 => ?_) (fun c_4 => ?_)
          · refine lv_iconst (v := 0) hx hb dX7_blocksThat_41 (by decide) ?_
            exact J_3 _ ((if_pos c_4).trans rfl).symm
          · refine lv_iconst (v := 1) hx hb dX7_blocksThat_37 (by decide) ?_
            refine lv_goto (tgt := 42) hx hb dX7_blocksThat_38 (by decide) ?_
            exact J_3 _ ((if_neg c_4).trans rfl).symm
      · refine lv_aload_n hx hb dX7_blocksThat_17 rfl (lv_at hl 0 rfl) ?_
        refine gt7_10 C hP in_X7_blocksThat_7 ln_X7_blocksThat_2 dX7_blocksThat_18 ?_
        refine lv_iload_n hx hb dX7_blocksThat_21 rfl (lv_at hl 3 rfl) ?_
        refine al7_10 C hP (ix_c (n := 64) (by omega) (by have h := nle_t c_1; omega)) (v := (u.2 10 (Int32.toNatClampNeg x3))) rfl dX7_blocksThat_22 ?_
        refine lv_goto (tgt := 42) hx hb dX7_blocksThat_23 (by decide) ?_
        refine lv_iadd hx hb dX7_blocksThat_42 ?_
        refine lv_istore_n (lv' := [(2, .int _), (0, .ref _), (1, .int _), (3, .int _)]) hx hb dX7_blocksThat_43 rfl hl (by decide) rfl (fun ls hl => ?_)
        refine lv_iinc (v := (x3 + 1)) (lv' := [(3, .int _), (2, .int _), (0, .ref _), (1, .int _)]) hx hb dX7_blocksThat_44 hl (k := 3) rfl rfl (by decide) rfl (fun ls hl => ?_)
        refine lv_goto (tgt := 4) hx hb dX7_blocksThat_47 (by decide) ?_
        exact ih (x2 + (u.2 10 (Int32.toNatClampNeg x3))) (x3 + 1)   _ _ _ (by have h := nle_t c_1; have h2 := inc_b (n := 64) (x := x3) (by omega) (by decide); omega) (by have h := nle_t c_1; have h2 := inc_b (n := 64) (x := x3) (by omega) (by decide); omega) (hF.trans ((if_neg c_1).trans ((if_neg c_2).trans rfl))) hP hS (lv_sub hl [2, 3, 1, 0] rfl)
set_option maxHeartbeats 4000000 in
set_option maxRecDepth 100000 in
theorem c_X7_blocksThat (l : Launch) (D : va_G) (cI cZ : ClassId) (ad : Nat → Nat) (u : ob_S) (x1 : Int32) (hB : (u.1 3).toInt ≤ 64) : Ct_p l yX7_blocksThat wsX7_blocksThat ({ frames := 0, cells := 0, slots := 0, locals := 0 } : Room) D (ct_T cI cZ) [.ref (ad 0), .int x1] (w_7 cI ad u) (f_X7_blocksThat u x1) := by
  refine en_p (cc := cX7_blocksThat) (maxL := 4) (ret := (some .int)) (own := RX7) (by decide +kernel) rfl rfl (Nat.le_of_ble_eq_true rfl) ?_
  intro p e s m args below meth c A ls C hr hlk hP hD hS hl
  have hx := C.1
  have hb := C.2.1
  have hl : lv_has ls 4 [(0, .ref (ad 0)), (1, .int x1)] := hl
  refine lv_iconst (v := 0) hx hb dX7_blocksThat_0 (by decide) ?_
  refine lv_istore_n (lv' := [(2, .int _), (0, .ref _), (1, .int _)]) hx hb dX7_blocksThat_1 rfl hl (by decide) rfl (fun ls hl => ?_)
  refine lv_iconst (v := 0) hx hb dX7_blocksThat_2 (by decide) ?_
  refine lv_istore_n (lv' := [(3, .int _), (2, .int _), (0, .ref _), (1, .int _)]) hx hb dX7_blocksThat_3 rfl hl (by decide) rfl (fun ls hl => ?_)
  exact lp_X7_blocksThat_4 C hr hlk hD hB 65 0 0 _ _ _ (by decide) (by decide) rfl hP hS (lv_sub hl [2, 3, 1, 0] rfl)
theorem ln_X7_countPower_1 : Cond.fieldLink RX7 88 "BlockCardModel" "address" "I" ∈ wsX7_countPower := List.mem_of_getElem? (i := 1) rfl
theorem in_X7_countPower_7 : ∀ w ∈ wsX70, w ∈ wsX7_countPower := fun w h => List.mem_cons_of_mem _ (List.mem_append_right _ h)
theorem ln_X7_countPower_2 : Cond.fieldLink RX7 91 "BlockCardModel" "lines" "I" ∈ wsX7_countPower := List.mem_of_getElem? (i := 2) rfl
theorem ln_X7_countPower_3 : Cond.fieldLink RX7 94 "BlockCardModel" "speed" "I" ∈ wsX7_countPower := List.mem_of_getElem? (i := 3) rfl
theorem ln_X7_countPower_4 : Cond.fieldLink RX7 97 "BlockCardModel" "point" "I" ∈ wsX7_countPower := List.mem_of_getElem? (i := 4) rfl
theorem ln_X7_countPower_5 : Cond.fieldLink RX7 78 "BlockCardModel" "isOn" "Z" ∈ wsX7_countPower := List.mem_of_getElem? (i := 5) rfl
theorem ln_X7_countPower_6 : Cond.fieldLink RX7 100 "BlockCardModel" "isLocked" "Z" ∈ wsX7_countPower := List.mem_of_getElem? (i := 6) rfl
theorem ln_X7_countPower_7 : Cond.fieldLink RX7 103 "BlockCardModel" "notes" "I" ∈ wsX7_countPower := List.mem_of_getElem? (i := 7) rfl
theorem ln_X7_countPower_8 : Cond.fieldLink RX7 109 "BlockCardModel" "eraseMany" "I" ∈ wsX7_countPower := List.mem_of_getElem? (i := 8) rfl
set_option maxHeartbeats 4000000 in
set_option maxRecDepth 100000 in
theorem c_X7_countPower (l : Launch) (D : va_G) (cI cZ : ClassId) (ad : Nat → Nat) (u : ob_S) (x1 : Int32)  : Ct_p l yX7_countPower wsX7_countPower ({ frames := 0, cells := 0, slots := 0, locals := 0 } : Room) D (ct_T cI cZ) [.ref (ad 0), .int x1] (w_7 cI ad u) (f_X7_countPower u x1) := by
  refine en_p (cc := cX7_countPower) (maxL := 2) (ret := (some .int)) (own := RX7) (by decide +kernel) rfl rfl (Nat.le_of_ble_eq_true rfl) ?_
  intro p e s m args below meth c A ls C hr hlk hP hD hS hl
  have hx := C.1
  have hb := C.2.1
  have hl : lv_has ls 2 [(0, .ref (ad 0)), (1, .int x1)] := hl
  refine lv_iload_n hx hb dX7_countPower_0 rfl (lv_at hl 1 rfl) ?_
  by_cases s_1 : x1 = 3
  · refine lv_tableIn (tgt := 40) hx hb dX7_countPower_1 (by rw [s_1]; decide) (by rw [s_1]; decide) (by rw [s_1]; rfl) (by decide) ?_
    refine lv_aload_n hx hb dX7_countPower_40 rfl (lv_at hl 0 rfl) ?_
    refine gt7_17 C hP in_X7_countPower_7 ln_X7_countPower_1 (v := (u.1 17)) rfl dX7_countPower_41 ?_
    exact rt_p C hr hlk hS ((if_pos s_1).trans rfl) dX7_countPower_44
  by_cases s_2 : x1 = 4
  · refine lv_tableIn (tgt := 45) hx hb dX7_countPower_1 (by rw [s_2]; decide) (by rw [s_2]; decide) (by rw [s_2]; rfl) (by decide) ?_
    refine lv_aload_n hx hb dX7_countPower_45 rfl (lv_at hl 0 rfl) ?_
    refine gt7_18 C hP in_X7_countPower_7 ln_X7_countPower_2 (v := (u.1 18)) rfl dX7_countPower_46 ?_
    exact rt_p C hr hlk hS ((if_neg s_1).trans ((if_pos s_2).trans rfl)) dX7_countPower_49
  by_cases s_3 : x1 = 5
  · refine lv_tableIn (tgt := 50) hx hb dX7_countPower_1 (by rw [s_3]; decide) (by rw [s_3]; decide) (by rw [s_3]; rfl) (by decide) ?_
    refine lv_aload_n hx hb dX7_countPower_50 rfl (lv_at hl 0 rfl) ?_
    refine gt7_19 C hP in_X7_countPower_7 ln_X7_countPower_3 (v := (u.1 19)) rfl dX7_countPower_51 ?_
    exact rt_p C hr hlk hS ((if_neg s_1).trans ((if_neg s_2).trans ((if_pos s_3).trans rfl))) dX7_countPower_54
  by_cases s_4 : x1 = 6
  · refine lv_tableIn (tgt := 55) hx hb dX7_countPower_1 (by rw [s_4]; decide) (by rw [s_4]; decide) (by rw [s_4]; rfl) (by decide) ?_
    refine lv_aload_n hx hb dX7_countPower_55 rfl (lv_at hl 0 rfl) ?_
    refine gt7_20 C hP in_X7_countPower_7 ln_X7_countPower_4 (v := (u.1 20)) rfl dX7_countPower_56 ?_
    exact rt_p C hr hlk hS ((if_neg s_1).trans ((if_neg s_2).trans ((if_neg s_3).trans ((if_pos s_4).trans rfl)))) dX7_countPower_59
  by_cases s_5 : x1 = 7
  · refine lv_tableIn (tgt := 60) hx hb dX7_countPower_1 (by rw [s_5]; decide) (by rw [s_5]; decide) (by rw [s_5]; rfl) (by decide) ?_
    refine lv_aload_n hx hb dX7_countPower_60 rfl (lv_at hl 0 rfl) ?_
    refine gt7_15 C hP in_X7_countPower_7 ln_X7_countPower_5 (v := (u.1 15)) rfl dX7_countPower_61 ?_
    refine lv_if_eq (tgt := 78) hx hb dX7_countPower_64 (by decide) (fun c_6 => ?_) (fun c_6 => ?_)
    · refine lv_iconst (v := 0) hx hb dX7_countPower_78 (by decide) ?_
      exact rt_p C hr hlk hS ((if_neg s_1).trans ((if_neg s_2).trans ((if_neg s_3).trans ((if_neg s_4).trans ((if_pos s_5).trans ((if_pos c_6).trans rfl)))))) dX7_countPower_79
    · refine lv_aload_n hx hb dX7_countPower_67 rfl (lv_at hl 0 rfl) ?_
      refine gt7_21 C hP in_X7_countPower_7 ln_X7_countPower_6 (v := (u.1 21)) rfl dX7_countPower_68 ?_
      refine lv_if_eq (tgt := 78) hx hb dX7_countPower_71 (by decide) (fun c_7 => ?_) (fun c_7 => ?_)
      · refine lv_iconst (v := 0) hx hb dX7_countPower_78 (by decide) ?_
        exact rt_p C hr hlk hS ((if_neg s_1).trans ((if_neg s_2).trans ((if_neg s_3).trans ((if_neg s_4).trans ((if_pos s_5).trans ((if_neg c_6).trans ((if_pos c_7).trans rfl))))))) dX7_countPower_79
      · refine lv_iconst (v := 1) hx hb dX7_countPower_74 (by decide) ?_
        refine lv_goto (tgt := 79) hx hb dX7_countPower_75 (by decide) ?_
        exact rt_p C hr hlk hS ((if_neg s_1).trans ((if_neg s_2).trans ((if_neg s_3).trans ((if_neg s_4).trans ((if_pos s_5).trans ((if_neg c_6).trans ((if_neg c_7).trans rfl))))))) dX7_countPower_79
  by_cases s_8 : x1 = 8
  · refine lv_tableIn (tgt := 80) hx hb dX7_countPower_1 (by rw [s_8]; decide) (by rw [s_8]; decide) (by rw [s_8]; rfl) (by decide) ?_
    refine lv_aload_n hx hb dX7_countPower_80 rfl (lv_at hl 0 rfl) ?_
    refine gt7_22 C hP in_X7_countPower_7 ln_X7_countPower_7 (v := (u.1 22)) rfl dX7_countPower_81 ?_
    exact rt_p C hr hlk hS ((if_neg s_1).trans ((if_neg s_2).trans ((if_neg s_3).trans ((if_neg s_4).trans ((if_neg s_5).trans ((if_pos s_8).trans rfl)))))) dX7_countPower_84
  refine tb_any (tgt := 85) hx hb dX7_countPower_1 ?_ (by decide) ?_
  · have q0 := lv_neT s_1 (a := 3) rfl
    have q1 := lv_neT s_2 (a := 4) rfl
    have q2 := lv_neT s_3 (a := 5) rfl
    have q3 := lv_neT s_4 (a := 6) rfl
    have q4 := lv_neT s_5 (a := 7) rfl
    have q5 := lv_neT s_8 (a := 8) rfl
    rcases (show (x1.toInt < 3 ∨ 8 < x1.toInt) by omega) with h
    · exact Or.inl h
  · refine lv_aload_n hx hb dX7_countPower_85 rfl (lv_at hl 0 rfl) ?_
    refine gt7_28 C hP in_X7_countPower_7 ln_X7_countPower_8 (v := (u.1 28)) rfl dX7_countPower_86 ?_
    exact rt_p C hr hlk hS ((if_neg s_1).trans ((if_neg s_2).trans ((if_neg s_3).trans ((if_neg s_4).trans ((if_neg s_5).trans ((if_neg s_8).trans rfl)))))) dX7_countPower_89
