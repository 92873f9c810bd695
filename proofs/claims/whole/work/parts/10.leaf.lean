set_option maxHeartbeats 4000000 in
set_option maxRecDepth 100000 in
theorem c_J9_floorMod_7cf53 (l : Launch) (D : va_G) (cI cZ : ClassId)  (x0 : Int32) (x1 : Int32) (hne : ¬ x1 = 0) : Ct_p l yJ9_floorMod_7cf53 wsJ9_floorMod_7cf53 ({ frames := 0, cells := 0, slots := 0, locals := 0 } : Room) D (ct_T cI cZ) [.int x0, .int x1] [] (f_J9_floorMod_7cf53 x0 x1) := by
  refine en_pF (cc := cJ9_floorMod_7cf53) (maxL := 3) (ret := (some .int)) (own := RJ9) (by decide +kernel) rfl rfl (Nat.le_of_ble_eq_true rfl) ?_
  intro p e s m args below meth c A ls C hr hlk hP hD hS hl
  have hx := C.1
  have hb := C.2.1
  have hl : lv_has ls 3 [(0, .int x0), (1, .int x1)] := hl
  refine lv_iload_n hx hb dJ9_floorMod_7cf53_0 rfl (lv_at hl 0 rfl) ?_
  refine lv_iload_n hx hb dJ9_floorMod_7cf53_1 rfl (lv_at hl 1 rfl) ?_
  refine lv_irem hx hb dJ9_floorMod_7cf53_2 hne ?_
  refine lv_istore_n (lv' := [(2, .int _), (0, .int _), (1, .int _)]) hx hb dJ9_floorMod_7cf53_3 rfl hl (by decide) rfl (fun ls hl => ?_)
  refine lv_iload_n hx hb dJ9_floorMod_7cf53_4 rfl (lv_at hl 1 rfl) ?_
  refine lv_iload_n hx hb dJ9_floorMod_7cf53_5 rfl (lv_at hl 2 rfl) ?_
  refine lv_ixor hx hb dJ9_floorMod_7cf53_6 ?_
  refine lv_if_ge (tgt := 18) hx hb dJ9_floorMod_7cf53_7 (by decide) (fun c_1 => ?_) (fun c_1 => ?_)
  · refine lv_iload_n hx hb dJ9_floorMod_7cf53_18 rfl (lv_at hl 0 rfl) ?_
    exact rt_p C hr hlk hS ((if_pos c_1).trans rfl) dJ9_floorMod_7cf53_19
  · refine lv_iload_n hx hb dJ9_floorMod_7cf53_10 rfl (lv_at hl 0 rfl) ?_
    refine lv_if_eq (tgt := 18) hx hb dJ9_floorMod_7cf53_11 (by decide) (fun c_2 => ?_) (fun c_2 => ?_)
    · refine lv_iload_n hx hb dJ9_floorMod_7cf53_18 rfl (lv_at hl 0 rfl) ?_
      exact rt_p C hr hlk hS ((if_neg c_1).trans ((if_pos c_2).trans rfl)) dJ9_floorMod_7cf53_19
    · refine lv_iload_n hx hb dJ9_floorMod_7cf53_14 rfl (lv_at hl 0 rfl) ?_
      refine lv_iload_n hx hb dJ9_floorMod_7cf53_15 rfl (lv_at hl 2 rfl) ?_
      refine lv_iadd hx hb dJ9_floorMod_7cf53_16 ?_
      exact rt_p C hr hlk hS ((if_neg c_1).trans ((if_neg c_2).trans rfl)) dJ9_floorMod_7cf53_17
theorem ln_X1_empty_1 : Cond.fieldLink RX1 21 "BlockCard$Letters" "length" "I" ∈ wsX1_empty := List.mem_of_getElem? (i := 1) rfl
theorem in_X1_empty_1 : ∀ w ∈ wsX10, w ∈ wsX1_empty := fun w h => List.mem_cons_of_mem _ (List.mem_append_right _ h)
set_option maxHeartbeats 4000000 in
set_option maxRecDepth 100000 in
theorem c_X1_empty (l : Launch) (D : va_G) (cI cZ : ClassId) (N h h1 : Nat) (u : ob_S)  : Ct_v l yX1_empty wsX1_empty ({ frames := 0, cells := 0, slots := 0, locals := 0 } : Room) D (ct_T cI cZ) [.ref h] (w_1 cI N h h1 u) (fun u => (w_1 cI N h h1 u)) (f_X1_empty N u) := by
  refine en_v (cc := cX1_empty) (maxL := 1) (ret := none) (own := RX1) (by decide +kernel) rfl rfl (Nat.le_of_ble_eq_true rfl) ?_
  intro p e s m args below meth c A ls C hr hlk hP hD hS hl
  have hx := C.1
  have hb := C.2.1
  have hl : lv_has ls 1 [(0, .ref h)] := hl
  refine lv_aload_n hx hb dX1_empty_0 rfl (lv_at hl 0 rfl) ?_
  refine lv_iconst (v := 0) hx hb dX1_empty_1 (by decide) ?_
  refine pt1_1 C hP hD hS in_X1_empty_1 ln_X1_empty_1 dX1_empty_2 (fun H locs hP hD hS => ?_)
  exact rt_v C hr hlk hP hD hS rfl dX1_empty_5
theorem ln_X2_clear_1 : Cond.fieldLink RX2 9 "BlockCard$Link" "lines" "I" ∈ wsX2_clear := List.mem_of_getElem? (i := 1) rfl
theorem in_X2_clear_2 : ∀ w ∈ wsX20, w ∈ wsX2_clear := fun w h => List.mem_cons_of_mem _ (List.mem_append_right _ h)
theorem ln_X2_clear_2 : Cond.fieldLink RX2 15 "BlockCard$Link" "speed" "I" ∈ wsX2_clear := List.mem_of_getElem? (i := 2) rfl
theorem ln_X2_clear_3 : Cond.fieldLink RX2 18 "BlockCard$Link" "point" "I" ∈ wsX2_clear := List.mem_of_getElem? (i := 3) rfl
set_option maxHeartbeats 4000000 in
set_option maxRecDepth 100000 in
theorem c_X2_clear (l : Launch) (D : va_G) (cI cZ : ClassId) (h : Nat) (u : ob_S)  : Ct_v l yX2_clear wsX2_clear ({ frames := 0, cells := 0, slots := 0, locals := 0 } : Room) D (ct_T cI cZ) [.ref h] (w_2 h u) (fun u => (w_2 h u)) (f_X2_clear u) := by
  refine en_v (cc := cX2_clear) (maxL := 1) (ret := none) (own := RX2) (by decide +kernel) rfl rfl (Nat.le_of_ble_eq_true rfl) ?_
  intro p e s m args below meth c A ls C hr hlk hP hD hS hl
  have hx := C.1
  have hb := C.2.1
  have hl : lv_has ls 1 [(0, .ref h)] := hl
  refine lv_aload_n hx hb dX2_clear_0 rfl (lv_at hl 0 rfl) ?_
  refine lv_iconst (v := 0) hx hb dX2_clear_1 (by decide) ?_
  refine pt2_0 C hP hD hS in_X2_clear_2 ln_X2_clear_1 dX2_clear_2 (fun H locs hP hD hS => ?_)
  refine lv_aload_n hx hb dX2_clear_5 rfl (lv_at hl 0 rfl) ?_
  refine lv_iconst (v := 0) hx hb dX2_clear_6 (by decide) ?_
  refine pt2_1 C hP hD hS in_X2_clear_2 ln_X2_clear_2 dX2_clear_7 (fun H locs hP hD hS => ?_)
  refine lv_aload_n hx hb dX2_clear_10 rfl (lv_at hl 0 rfl) ?_
  refine lv_iconst (v := 0) hx hb dX2_clear_11 (by decide) ?_
  refine pt2_2 C hP hD hS in_X2_clear_2 ln_X2_clear_3 dX2_clear_12 (fun H locs hP hD hS => ?_)
  exact rt_v C hr hlk hP hD hS rfl dX2_clear_15
theorem ln_X4_clear_1 : Cond.fieldLink RX4 18 "BlockCard$Queue" "size" "I" ∈ wsX4_clear := List.mem_of_getElem? (i := 1) rfl
theorem in_X4_clear_4 : ∀ w ∈ wsX40, w ∈ wsX4_clear := fun w h => List.mem_cons_of_mem _ (List.mem_append_right _ h)
theorem ln_X4_clear_2 : Cond.fieldLink RX4 22 "BlockCard$Queue" "ticksOfFirst" "I" ∈ wsX4_clear := List.mem_of_getElem? (i := 2) rfl
set_option maxHeartbeats 4000000 in
set_option maxRecDepth 100000 in
theorem c_X4_clear (l : Launch) (D : va_G) (cI cZ : ClassId) (h h1 h2 : Nat) (u : ob_S)  : Ct_v l yX4_clear wsX4_clear ({ frames := 0, cells := 0, slots := 0, locals := 0 } : Room) D (ct_T cI cZ) [.ref h] (w_4 cI h h1 h2 u) (fun u => (w_4 cI h h1 h2 u)) (f_X4_clear u) := by
  refine en_v (cc := cX4_clear) (maxL := 1) (ret := none) (own := RX4) (by decide +kernel) rfl rfl (Nat.le_of_ble_eq_true rfl) ?_
  intro p e s m args below meth c A ls C hr hlk hP hD hS hl
  have hx := C.1
  have hb := C.2.1
  have hl : lv_has ls 1 [(0, .ref h)] := hl
  refine lv_aload_n hx hb dX4_clear_0 rfl (lv_at hl 0 rfl) ?_
  refine lv_iconst (v := 0) hx hb dX4_clear_1 (by decide) ?_
  refine pt4_2 C hP hD hS in_X4_clear_4 ln_X4_clear_1 dX4_clear_2 (fun H locs hP hD hS => ?_)
  refine lv_aload_n hx hb dX4_clear_5 rfl (lv_at hl 0 rfl) ?_
  refine lv_iconst (v := 0) hx hb dX4_clear_6 (by decide) ?_
  refine pt4_3 C hP hD hS in_X4_clear_4 ln_X4_clear_2 dX4_clear_7 (fun H locs hP hD hS => ?_)
  exact rt_v C hr hlk hP hD hS rfl dX4_clear_10
theorem ln_X0_forget_1 : Cond.fieldLink RX0 24 "BlockCard$Eraser" "begun" "I" ∈ wsX0_forget := List.mem_of_getElem? (i := 1) rfl
theorem in_X0_forget_0 : ∀ w ∈ wsX00, w ∈ wsX0_forget := fun w h => List.mem_cons_of_mem _ (List.mem_append_right _ h)
theorem ln_X0_forget_2 : Cond.fieldLink RX0 27 "BlockCard$Eraser" "from" "I" ∈ wsX0_forget := List.mem_of_getElem? (i := 2) rfl
theorem ln_X0_forget_3 : Cond.fieldLink RX0 30 "BlockCard$Eraser" "to" "I" ∈ wsX0_forget := List.mem_of_getElem? (i := 3) rfl
set_option maxHeartbeats 4000000 in
set_option maxRecDepth 100000 in
theorem c_X0_forget (l : Launch) (D : va_G) (cI cZ : ClassId) (h : Nat) (u : ob_S)  : Ct_v l yX0_forget wsX0_forget ({ frames := 0, cells := 0, slots := 0, locals := 0 } : Room) D (ct_T cI cZ) [.ref h] (w_0 h u) (fun u => (w_0 h u)) (f_X0_forget u) := by
  refine en_v (cc := cX0_forget) (maxL := 1) (ret := none) (own := RX0) (by decide +kernel) rfl rfl (Nat.le_of_ble_eq_true rfl) ?_
  intro p e s m args below meth c A ls C hr hlk hP hD hS hl
  have hx := C.1
  have hb := C.2.1
  have hl : lv_has ls 1 [(0, .ref h)] := hl
  refine lv_aload_n hx hb dX0_forget_0 rfl (lv_at hl 0 rfl) ?_
  refine lv_iconst (v := 0) hx hb dX0_forget_1 (by decide) ?_
  refine pt0_0 C hP hD hS in_X0_forget_0 ln_X0_forget_1 dX0_forget_2 (fun H locs hP hD hS => ?_)
  refine lv_aload_n hx hb dX0_forget_5 rfl (lv_at hl 0 rfl) ?_
  refine lv_iconst (v := 0) hx hb dX0_forget_6 (by decide) ?_
  refine pt0_1 C hP hD hS in_X0_forget_0 ln_X0_forget_2 dX0_forget_7 (fun H locs hP hD hS => ?_)
  refine lv_aload_n hx hb dX0_forget_10 rfl (lv_at hl 0 rfl) ?_
  refine lv_iconst (v := 0) hx hb dX0_forget_11 (by decide) ?_
  refine pt0_2 C hP hD hS in_X0_forget_0 ln_X0_forget_3 dX0_forget_12 (fun H locs hP hD hS => ?_)
  exact rt_v C hr hlk hP hD hS rfl dX0_forget_15
theorem ln_X0_clear_1 : Cond.fieldLink RX0 14 "BlockCard$Eraser" "lowest" "I" ∈ wsX0_clear := List.mem_of_getElem? (i := 1) rfl
theorem in_X0_clear_0 : ∀ w ∈ wsX00, w ∈ wsX0_clear := fun w h => List.mem_cons_of_mem _ (List.mem_append_right _ h)
theorem ln_X0_clear_2 : Cond.fieldLink RX0 18 "BlockCard$Eraser" "left" "I" ∈ wsX0_clear := List.mem_of_getElem? (i := 2) rfl
theorem ln_X0_clear_3 : Cond.fieldLink RX0 21 "BlockCard$Eraser" "ticksOfLowest" "I" ∈ wsX0_clear := List.mem_of_getElem? (i := 3) rfl
set_option maxHeartbeats 4000000 in
set_option maxRecDepth 100000 in
theorem c_X0_clear (l : Launch) (D : va_G) (cI cZ : ClassId) (h : Nat) (u : ob_S)  : Ct_v l yX0_clear wsX0_clear ({ frames := 1, cells := 0, slots := 0, locals := 20 } : Room) D (ct_T cI cZ) [.ref h] (w_0 h u) (fun u => (w_0 h u)) (f_X0_clear u) := by
  refine en_v (cc := cX0_clear) (maxL := 1) (ret := none) (own := RX0) (by decide +kernel) rfl rfl (Nat.le_of_ble_eq_true rfl) ?_
  intro p e s m args below meth c A ls C hr hlk hP hD hS hl
  have hx := C.1
  have hb := C.2.1
  have hl : lv_has ls 1 [(0, .ref h)] := hl
  refine lv_aload_n hx hb dX0_clear_0 rfl (lv_at hl 0 rfl) ?_
  refine kv_v C (c_X0_forget l D cI cZ h u  ) (cwV 0 C.2.2.2.2.1 gX0_clear_X0_forget rfl rfl rfl hdX0_forget ⟨Nat.le_of_ble_eq_true rfl, Nat.le_of_ble_eq_true rfl⟩) (ci := 0) (q0 := 0) rfl rfl rfl hP hD hS (sp_self (fun u => (w_0 h u)) 1 (fun _ => rfl)) rfl hl.1 rfl (Nat.le_of_ble_eq_true rfl) dX0_clear_1 ⟨Nat.zero_le _, Nat.zero_le _⟩ (fun H locs hP hD hS => ?_)
  refine lv_aload_n hx hb dX0_clear_4 rfl (lv_at hl 0 rfl) ?_
  refine lv_iconst (v := 0) hx hb dX0_clear_5 (by decide) ?_
  refine pt0_3 C hP hD hS in_X0_clear_0 ln_X0_clear_1 dX0_clear_6 (fun H locs hP hD hS => ?_)
  refine lv_aload_n hx hb dX0_clear_9 rfl (lv_at hl 0 rfl) ?_
  refine lv_iconst (v := 0) hx hb dX0_clear_10 (by decide) ?_
  refine pt0_4 C hP hD hS in_X0_clear_0 ln_X0_clear_2 dX0_clear_11 (fun H locs hP hD hS => ?_)
  refine lv_aload_n hx hb dX0_clear_14 rfl (lv_at hl 0 rfl) ?_
  refine lv_iconst (v := 0) hx hb dX0_clear_15 (by decide) ?_
  refine pt0_5 C hP hD hS in_X0_clear_0 ln_X0_clear_3 dX0_clear_16 (fun H locs hP hD hS => ?_)
  exact rt_v C hr hlk hP hD hS rfl dX0_clear_19
theorem ln_X5_clear_1 : Cond.fieldLink RX5 7 "BlockCard$Stream" "expected" "I" ∈ wsX5_clear := List.mem_of_getElem? (i := 1) rfl
theorem in_X5_clear_5 : ∀ w ∈ wsX50, w ∈ wsX5_clear := fun w h => List.mem_cons_of_mem _ (List.mem_append_right _ h)
theorem ln_X5_clear_2 : Cond.fieldLink RX5 13 "BlockCard$Stream" "next" "I" ∈ wsX5_clear := List.mem_of_getElem? (i := 2) rfl
theorem ln_X5_clear_3 : Cond.fieldLink RX5 16 "BlockCard$Stream" "left" "I" ∈ wsX5_clear := List.mem_of_getElem? (i := 3) rfl
theorem ln_X5_clear_4 : Cond.fieldLink RX5 19 "BlockCard$Stream" "counted" "Z" ∈ wsX5_clear := List.mem_of_getElem? (i := 4) rfl
theorem ln_X5_clear_5 : Cond.fieldLink RX5 23 "BlockCard$Stream" "wrong" "Z" ∈ wsX5_clear := List.mem_of_getElem? (i := 5) rfl
set_option maxHeartbeats 4000000 in
set_option maxRecDepth 100000 in
theorem c_X5_clear (l : Launch) (D : va_G) (cI cZ : ClassId) (h : Nat) (u : ob_S)  : Ct_v l yX5_clear wsX5_clear ({ frames := 0, cells := 0, slots := 0, locals := 0 } : Room) D (ct_T cI cZ) [.ref h] (w_5 h u) (fun u => (w_5 h u)) (f_X5_clear u) := by
  refine en_v (cc := cX5_clear) (maxL := 1) (ret := none) (own := RX5) (by decide +kernel) rfl rfl (Nat.le_of_ble_eq_true rfl) ?_
  intro p e s m args below meth c A ls C hr hlk hP hD hS hl
  have hx := C.1
  have hb := C.2.1
  have hl : lv_has ls 1 [(0, .ref h)] := hl
  refine lv_aload_n hx hb dX5_clear_0 rfl (lv_at hl 0 rfl) ?_
  refine lv_iconst (v := 0) hx hb dX5_clear_1 (by decide) ?_
  refine pt5_0 C hP hD hS in_X5_clear_5 ln_X5_clear_1 dX5_clear_2 (fun H locs hP hD hS => ?_)
  refine lv_aload_n hx hb dX5_clear_5 rfl (lv_at hl 0 rfl) ?_
  refine lv_iconst (v := 0) hx hb dX5_clear_6 (by decide) ?_
  refine pt5_1 C hP hD hS in_X5_clear_5 ln_X5_clear_2 dX5_clear_7 (fun H locs hP hD hS => ?_)
  refine lv_aload_n hx hb dX5_clear_10 rfl (lv_at hl 0 rfl) ?_
  refine lv_iconst (v := 0) hx hb dX5_clear_11 (by decide) ?_
  refine pt5_2 C hP hD hS in_X5_clear_5 ln_X5_clear_3 dX5_clear_12 (fun H locs hP hD hS => ?_)
  refine lv_aload_n hx hb dX5_clear_15 rfl (lv_at hl 0 rfl) ?_
  refine lv_iconst (v := 0) hx hb dX5_clear_16 (by decide) ?_
  refine pt5_3 C hP hD hS in_X5_clear_5 ln_X5_clear_4 (Or.inl rfl) dX5_clear_17 (fun H locs hP hD hS => ?_)
  refine lv_aload_n hx hb dX5_clear_20 rfl (lv_at hl 0 rfl) ?_
  refine lv_iconst (v := 0) hx hb dX5_clear_21 (by decide) ?_
  refine pt5_4 C hP hD hS in_X5_clear_5 ln_X5_clear_5 (Or.inl rfl) dX5_clear_22 (fun H locs hP hD hS => ?_)
  exact rt_v C hr hlk hP hD hS rfl dX5_clear_25
theorem ln_X1_length_1 : Cond.fieldLink RX1 21 "BlockCard$Letters" "length" "I" ∈ wsX1_length := List.mem_of_getElem? (i := 1) rfl
theorem in_X1_length_1 : ∀ w ∈ wsX10, w ∈ wsX1_length := fun w h => List.mem_cons_of_mem _ (List.mem_append_right _ h)
set_option maxHeartbeats 4000000 in
set_option maxRecDepth 100000 in
theorem c_X1_length (l : Launch) (D : va_G) (cI cZ : ClassId) (N h h1 : Nat) (u : ob_S)  : Ct_p l yX1_length wsX1_length ({ frames := 0, cells := 0, slots := 0, locals := 0 } : Room) D (ct_T cI cZ) [.ref h] (w_1 cI N h h1 u) (f_X1_length N u) := by
  refine en_p (cc := cX1_length) (maxL := 1) (ret := (some .int)) (own := RX1) (by decide +kernel) rfl rfl (Nat.le_of_ble_eq_true rfl) ?_
  intro p e s m args below meth c A ls C hr hlk hP hD hS hl
  have hx := C.1
  have hb := C.2.1
  have hl : lv_has ls 1 [(0, .ref h)] := hl
  refine lv_aload_n hx hb dX1_length_0 rfl (lv_at hl 0 rfl) ?_
  refine gt1_1 C hP in_X1_length_1 ln_X1_length_1 (v := (u.1 1)) rfl dX1_length_1 ?_
  exact rt_p C hr hlk hS rfl dX1_length_4
theorem ln_X4_firstHasBegun_1 : Cond.fieldLink RX4 18 "BlockCard$Queue" "size" "I" ∈ wsX4_firstHasBegun := List.mem_of_getElem? (i := 1) rfl
theorem in_X4_firstHasBegun_4 : ∀ w ∈ wsX40, w ∈ wsX4_firstHasBegun := fun w h => List.mem_cons_of_mem _ (List.mem_append_right _ h)
theorem ln_X4_firstHasBegun_2 : Cond.fieldLink RX4 22 "BlockCard$Queue" "ticksOfFirst" "I" ∈ wsX4_firstHasBegun := List.mem_of_getElem? (i := 2) rfl
set_option maxHeartbeats 4000000 in
set_option maxRecDepth 100000 in
theorem c_X4_firstHasBegun (l : Launch) (D : va_G) (cI cZ : ClassId) (h h1 h2 : Nat) (u : ob_S)  : Ct_p l yX4_firstHasBegun wsX4_firstHasBegun ({ frames := 0, cells := 0, slots := 0, locals := 0 } : Room) D (ct_T cI cZ) [.ref h] (w_4 cI h h1 h2 u) (f_X4_firstHasBegun u) := by
  refine en_p (cc := cX4_firstHasBegun) (maxL := 1) (ret := (some .boolean)) (own := RX4) (by decide +kernel) rfl rfl (Nat.le_of_ble_eq_true rfl) ?_
  intro p e s m args below meth c A ls C hr hlk hP hD hS hl
  have hx := C.1
  have hb := C.2.1
  have hl : lv_has ls 1 [(0, .ref h)] := hl
  refine lv_aload_n hx hb dX4_firstHasBegun_0 rfl (lv_at hl 0 rfl) ?_
  refine gt4_2 C hP in_X4_firstHasBegun_4 ln_X4_firstHasBegun_1 (v := (u.1 2)) rfl dX4_firstHasBegun_1 ?_
  refine lv_if_le (tgt := 18) hx hb dX4_firstHasBegun_4 (by decide) (fun c_1 => ?_) (fun c_1 => ?_)
  · refine lv_iconst (v := 0) hx hb dX4_firstHasBegun_18 (by decide) ?_
    exact rt_q C hr hlk (Or.inl rfl) hS ((if_pos c_1).trans rfl) dX4_firstHasBegun_19
  · refine lv_aload_n hx hb dX4_firstHasBegun_7 rfl (lv_at hl 0 rfl) ?_
    refine gt4_3 C hP in_X4_firstHasBegun_4 ln_X4_firstHasBegun_2 (v := (u.1 3)) rfl dX4_firstHasBegun_8 ?_
    refine lv_if_le (tgt := 18) hx hb dX4_firstHasBegun_11 (by decide) (fun c_2 => ?_) (fun c_2 => ?_)
    · refine lv_iconst (v := 0) hx hb dX4_firstHasBegun_18 (by decide) ?_
      exact rt_q C hr hlk (Or.inl rfl) hS ((if_neg c_1).trans ((if_pos c_2).trans rfl)) dX4_firstHasBegun_19
    · refine lv_iconst (v := 1) hx hb dX4_firstHasBegun_14 (by decide) ?_
      refine lv_goto (tgt := 19) hx hb dX4_firstHasBegun_15 (by decide) ?_
      exact rt_q C hr hlk (Or.inr rfl) hS ((if_neg c_1).trans ((if_neg c_2).trans rfl)) dX4_firstHasBegun_19
theorem ln_X4_tellOf_1 : Cond.fieldLink RX4 18 "BlockCard$Queue" "size" "I" ∈ wsX4_tellOf := List.mem_of_getElem? (i := 1) rfl
theorem in_X4_tellOf_4 : ∀ w ∈ wsX40, w ∈ wsX4_tellOf := fun w h => List.mem_cons_of_mem _ (List.mem_append_right _ h)
theorem ln_X4_tellOf_4 : Cond.fieldLink RX4 22 "BlockCard$Queue" "ticksOfFirst" "I" ∈ wsX4_tellOf := List.mem_of_getElem? (i := 4) rfl
theorem ln_X4_tellOf_3 : Cond.fieldLink RX4 15 "BlockCard$Queue" "contents" "[I" ∈ wsX4_tellOf := List.mem_of_getElem? (i := 3) rfl
theorem ln_X4_tellOf_2 : Cond.fieldLink RX4 9 "BlockCard$Queue" "places" "[I" ∈ wsX4_tellOf := List.mem_of_getElem? (i := 2) rfl
set_option maxHeartbeats 4000000 in
set_option maxRecDepth 100000 in
theorem c_X4_tellOf (l : Launch) (D : va_G) (cI cZ : ClassId) (h h1 h2 : Nat) (u : ob_S) (x1 : Int32) (x2 : Int32)  : Ct_p l yX4_tellOf wsX4_tellOf ({ frames := 0, cells := 0, slots := 0, locals := 0 } : Room) D (ct_T cI cZ) [.ref h, .int x1, .int x2] (w_4 cI h h1 h2 u) (f_X4_tellOf u x1 x2) := by
  refine en_p (cc := cX4_tellOf) (maxL := 3) (ret := (some .int)) (own := RX4) (by decide +kernel) rfl rfl (Nat.le_of_ble_eq_true rfl) ?_
  intro p e s m args below meth c A ls C hr hlk hP hD hS hl
  have hx := C.1
  have hb := C.2.1
  have hl : lv_has ls 3 [(0, .ref h), (1, .int x1), (2, .int x2)] := hl
  refine lv_iload_n hx hb dX4_tellOf_0 rfl (lv_at hl 1 rfl) ?_
  refine lv_if_lt (tgt := 17) hx hb dX4_tellOf_1 (by decide) (fun c_1 => ?_) (fun c_1 => ?_)
  · refine lv_bipush (v := (-4)) hx hb dX4_tellOf_17 (by decide) ?_
    exact rt_p C hr hlk hS ((if_pos c_1).trans rfl) dX4_tellOf_19
  · refine lv_iload_n hx hb dX4_tellOf_4 rfl (lv_at hl 1 rfl) ?_
    refine lv_aload_n hx hb dX4_tellOf_5 rfl (lv_at hl 0 rfl) ?_
    refine gt4_2 C hP in_X4_tellOf_4 ln_X4_tellOf_1 (v := (u.1 2)) rfl dX4_tellOf_6 ?_
    refine lv_icmp_ge (tgt := 17) hx hb dX4_tellOf_9 (by decide) (fun c_2 => ?_) (fun c_2 => ?_)
    · refine lv_bipush (v := (-4)) hx hb dX4_tellOf_17 (by decide) ?_
      exact rt_p C hr hlk hS ((if_neg c_1).trans ((if_pos c_2).trans rfl)) dX4_tellOf_19
    · refine lv_iload_n hx hb dX4_tellOf_12 rfl (lv_at hl 1 rfl) ?_
      refine lv_iconst (v := 2) hx hb dX4_tellOf_13 (by decide) ?_
      refine lv_icmp_lt (tgt := 20) hx hb dX4_tellOf_14 (by decide) (fun c_3 => ?_) (fun c_3 => ?_)
      · refine lv_iload_n hx hb dX4_tellOf_20 rfl (lv_at hl 2 rfl) ?_
        refine lv_if_ne (tgt := 31) hx hb dX4_tellOf_21 (by decide) (fun c_4 => ?_) (fun c_4 => ?_)
        · refine lv_iload_n hx hb dX4_tellOf_31 rfl (lv_at hl 2 rfl) ?_
          refine lv_iconst (v := 1) hx hb dX4_tellOf_32 (by decide) ?_
          refine lv_icmp_ne (tgt := 43) hx hb dX4_tellOf_33 (by decide) (fun c_5 => ?_) (fun c_5 => ?_)
          · refine lv_iload_n hx hb dX4_tellOf_43 rfl (lv_at hl 1 rfl) ?_
            refine lv_if_ne (tgt := 54) hx hb dX4_tellOf_44 (by decide) (fun c_6 => ?_) (fun c_6 => ?_)
            · refine lv_iconst (v := 0) hx hb dX4_tellOf_54 (by decide) ?_
              exact rt_p C hr hlk hS ((if_neg c_1).trans ((if_neg c_2).trans ((if_pos c_3).trans ((if_neg c_4).trans ((if_neg c_5).trans ((if_neg c_6).trans rfl)))))) dX4_tellOf_55
            · refine lv_aload_n hx hb dX4_tellOf_47 rfl (lv_at hl 0 rfl) ?_
              refine gt4_3 C hP in_X4_tellOf_4 ln_X4_tellOf_4 (v := (u.1 3)) rfl dX4_tellOf_48 ?_
              refine lv_goto (tgt := 55) hx hb dX4_tellOf_51 (by decide) ?_
              exact rt_p C hr hlk hS ((if_neg c_1).trans ((if_neg c_2).trans ((if_pos c_3).trans ((if_neg c_4).trans ((if_neg c_5).trans ((if_pos c_6).trans rfl)))))) dX4_tellOf_55
          · refine lv_aload_n hx hb dX4_tellOf_36 rfl (lv_at hl 0 rfl) ?_
            refine gt4_1 C hP in_X4_tellOf_4 ln_X4_tellOf_3 dX4_tellOf_37 ?_
            refine lv_iload_n hx hb dX4_tellOf_40 rfl (lv_at hl 1 rfl) ?_
            refine al4_1 C hP (ix_c (nlt_k c_1 z_t) (lt_k c_3 (by decide))) (v := (u.2 1 (Int32.toNatClampNeg x1))) rfl dX4_tellOf_41 ?_
            exact rt_p C hr hlk hS ((if_neg c_1).trans ((if_neg c_2).trans ((if_pos c_3).trans ((if_neg c_4).trans ((if_pos c_5).trans rfl))))) dX4_tellOf_42
        · refine lv_aload_n hx hb dX4_tellOf_24 rfl (lv_at hl 0 rfl) ?_
          refine gt4_0 C hP in_X4_tellOf_4 ln_X4_tellOf_2 dX4_tellOf_25 ?_
          refine lv_iload_n hx hb dX4_tellOf_28 rfl (lv_at hl 1 rfl) ?_
          refine al4_0 C hP (ix_c (nlt_k c_1 z_t) (lt_k c_3 (by decide))) (v := (u.2 0 (Int32.toNatClampNeg x1))) rfl dX4_tellOf_29 ?_
          exact rt_p C hr hlk hS ((if_neg c_1).trans ((if_neg c_2).trans ((if_pos c_3).trans ((if_pos c_4).trans rfl)))) dX4_tellOf_30
      · refine lv_bipush (v := (-4)) hx hb dX4_tellOf_17 (by decide) ?_
        exact rt_p C hr hlk hS ((if_neg c_1).trans ((if_neg c_2).trans ((if_neg c_3).trans rfl))) dX4_tellOf_19
theorem ln_X0_groupHasBegun_1 : Cond.fieldLink RX0 18 "BlockCard$Eraser" "left" "I" ∈ wsX0_groupHasBegun := List.mem_of_getElem? (i := 1) rfl
theorem in_X0_groupHasBegun_0 : ∀ w ∈ wsX00, w ∈ wsX0_groupHasBegun := fun w h => List.mem_cons_of_mem _ (List.mem_append_right _ h)
theorem ln_X0_groupHasBegun_2 : Cond.fieldLink RX0 21 "BlockCard$Eraser" "ticksOfLowest" "I" ∈ wsX0_groupHasBegun := List.mem_of_getElem? (i := 2) rfl
set_option maxHeartbeats 4000000 in
set_option maxRecDepth 100000 in
theorem c_X0_groupHasBegun (l : Launch) (D : va_G) (cI cZ : ClassId) (h : Nat) (u : ob_S)  : Ct_p l yX0_groupHasBegun wsX0_groupHasBegun ({ frames := 0, cells := 0, slots := 0, locals := 0 } : Room) D (ct_T cI cZ) [.ref h] (w_0 h u) (f_X0_groupHasBegun u) := by
  refine en_p (cc := cX0_groupHasBegun) (maxL := 1) (ret := (some .boolean)) (own := RX0) (by decide +kernel) rfl rfl (Nat.le_of_ble_eq_true rfl) ?_
  intro p e s m args below meth c A ls C hr hlk hP hD hS hl
  have hx := C.1
  have hb := C.2.1
  have hl : lv_has ls 1 [(0, .ref h)] := hl
  refine lv_aload_n hx hb dX0_groupHasBegun_0 rfl (lv_at hl 0 rfl) ?_
  refine gt0_4 C hP in_X0_groupHasBegun_0 ln_X0_groupHasBegun_1 (v := (u.1 4)) rfl dX0_groupHasBegun_1 ?_
  refine lv_if_le (tgt := 18) hx hb dX0_groupHasBegun_4 (by decide) (fun c_1 => ?_) (fun c_1 => ?_)
  · refine lv_iconst (v := 0) hx hb dX0_groupHasBegun_18 (by decide) ?_
    exact rt_q C hr hlk (Or.inl rfl) hS ((if_pos c_1).trans rfl) dX0_groupHasBegun_19
  · refine lv_aload_n hx hb dX0_groupHasBegun_7 rfl (lv_at hl 0 rfl) ?_
    refine gt0_5 C hP in_X0_groupHasBegun_0 ln_X0_groupHasBegun_2 (v := (u.1 5)) rfl dX0_groupHasBegun_8 ?_
    refine lv_if_le (tgt := 18) hx hb dX0_groupHasBegun_11 (by decide) (fun c_2 => ?_) (fun c_2 => ?_)
    · refine lv_iconst (v := 0) hx hb dX0_groupHasBegun_18 (by decide) ?_
      exact rt_q C hr hlk (Or.inl rfl) hS ((if_neg c_1).trans ((if_pos c_2).trans rfl)) dX0_groupHasBegun_19
    · refine lv_iconst (v := 1) hx hb dX0_groupHasBegun_14 (by decide) ?_
      refine lv_goto (tgt := 19) hx hb dX0_groupHasBegun_15 (by decide) ?_
      exact rt_q C hr hlk (Or.inr rfl) hS ((if_neg c_1).trans ((if_neg c_2).trans rfl)) dX0_groupHasBegun_19
theorem ln_X0_group_1 : Cond.fieldLink RX0 14 "BlockCard$Eraser" "lowest" "I" ∈ wsX0_group := List.mem_of_getElem? (i := 1) rfl
theorem in_X0_group_0 : ∀ w ∈ wsX00, w ∈ wsX0_group := fun w h => List.mem_cons_of_mem _ (List.mem_append_right _ h)
set_option maxHeartbeats 4000000 in
set_option maxRecDepth 100000 in
theorem c_X0_group (l : Launch) (D : va_G) (cI cZ : ClassId) (h : Nat) (u : ob_S)  : Ct_p l yX0_group wsX0_group ({ frames := 0, cells := 0, slots := 0, locals := 0 } : Room) D (ct_T cI cZ) [.ref h] (w_0 h u) (f_X0_group u) := by
  refine en_p (cc := cX0_group) (maxL := 1) (ret := (some .int)) (own := RX0) (by decide +kernel) rfl rfl (Nat.le_of_ble_eq_true rfl) ?_
  intro p e s m args below meth c A ls C hr hlk hP hD hS hl
  have hx := C.1
  have hb := C.2.1
  have hl : lv_has ls 1 [(0, .ref h)] := hl
  refine lv_aload_n hx hb dX0_group_0 rfl (lv_at hl 0 rfl) ?_
  refine gt0_3 C hP in_X0_group_0 ln_X0_group_1 (v := (u.1 3)) rfl dX0_group_1 ?_
  exact rt_p C hr hlk hS rfl dX0_group_4
theorem ln_X1_append_1 : Cond.fieldLink RX1 21 "BlockCard$Letters" "length" "I" ∈ wsX1_append := List.mem_of_getElem? (i := 1) rfl
theorem in_X1_append_1 : ∀ w ∈ wsX10, w ∈ wsX1_append := fun w h => List.mem_cons_of_mem _ (List.mem_append_right _ h)
theorem ln_X1_append_2 : Cond.fieldLink RX1 15 "BlockCard$Letters" "signs" "[I" ∈ wsX1_append := List.mem_of_getElem? (i := 2) rfl
set_option maxHeartbeats 4000000 in
set_option maxRecDepth 100000 in
theorem c_X1_append (l : Launch) (D : va_G) (cI cZ : ClassId) (N h h1 : Nat) (u : ob_S) (x1 : Int32) (hN : N < 2147483648) : Ct_i l yX1_append wsX1_append ({ frames := 0, cells := 0, slots := 0, locals := 0 } : Room) D (ct_T cI cZ) [.ref h, .int x1] (w_1 cI N h h1 u) (fun u => (w_1 cI N h h1 u)) (f_X1_append N u x1) := by
  refine en_i (cc := cX1_append) (maxL := 2) (ret := (some .boolean)) (own := RX1) (by decide +kernel) rfl rfl (Nat.le_of_ble_eq_true rfl) ?_
  intro p e s m args below meth c A ls C hr hlk hP hD hS hl
  have hx := C.1
  have hb := C.2.1
  have hl : lv_has ls 2 [(0, .ref h), (1, .int x1)] := hl
  refine lv_aload_n hx hb dX1_append_0 rfl (lv_at hl 0 rfl) ?_
  refine gt1_1 C hP in_X1_append_1 ln_X1_append_1 (v := (u.1 1)) rfl dX1_append_1 ?_
  refine lv_if_lt (tgt := 19) hx hb dX1_append_4 (by decide) (fun c_1 => ?_) (fun c_1 => ?_)
  · refine lv_iconst (v := 0) hx hb dX1_append_19 (by decide) ?_
    exact rt_z C hr hlk (Or.inl rfl) hP hD hS ((if_pos c_1).trans rfl) dX1_append_20
  · refine lv_aload_n hx hb dX1_append_7 rfl (lv_at hl 0 rfl) ?_
    refine gt1_1 C hP in_X1_append_1 ln_X1_append_1 (v := (u.1 1)) rfl dX1_append_8 ?_
    refine lv_aload_n hx hb dX1_append_11 rfl (lv_at hl 0 rfl) ?_
    refine gt1_0 C hP in_X1_append_1 ln_X1_append_2 dX1_append_12 ?_
    refine ln1_0 C hP dX1_append_15 ?_
    refine lv_icmp_lt (tgt := 21) hx hb dX1_append_16 (by decide) (fun c_2 => ?_) (fun c_2 => ?_)
    · refine lv_aload_n hx hb dX1_append_21 rfl (lv_at hl 0 rfl) ?_
      refine gt1_0 C hP in_X1_append_1 ln_X1_append_2 dX1_append_22 ?_
      refine lv_aload_n hx hb dX1_append_25 rfl (lv_at hl 0 rfl) ?_
      refine gt1_1 C hP in_X1_append_1 ln_X1_append_1 (v := (u.1 1)) rfl dX1_append_26 ?_
      refine lv_iload_n hx hb dX1_append_29 rfl (lv_at hl 1 rfl) ?_
      refine as1_0 C hP hD hS (ix_c (nlt_k c_1 z_t) (lt_k c_2 (oN_t hN))) dX1_append_30 (fun H locs hP hD hS => ?_)
      refine lv_aload_n hx hb dX1_append_31 rfl (lv_at hl 0 rfl) ?_
      refine lv_dup hx hb dX1_append_32 rfl ?_
      refine gt1_1 C hP in_X1_append_1 ln_X1_append_1 (v := (u.1 1)) rfl dX1_append_33 ?_
      refine lv_iconst (v := 1) hx hb dX1_append_36 (by decide) ?_
      refine lv_iadd hx hb dX1_append_37 ?_
      refine pt1_1 C hP hD hS in_X1_append_1 ln_X1_append_1 dX1_append_38 (fun H locs hP hD hS => ?_)
      refine lv_iconst (v := 1) hx hb dX1_append_41 (by decide) ?_
      exact rt_z C hr hlk (Or.inr rfl) hP hD hS ((if_neg c_1).trans ((if_pos c_2).trans rfl)) dX1_append_42
    · refine lv_iconst (v := 0) hx hb dX1_append_19 (by decide) ?_
      exact rt_z C hr hlk (Or.inl rfl) hP hD hS ((if_neg c_1).trans ((if_neg c_2).trans rfl)) dX1_append_20
theorem ln_X0_isBrokenOffBy_1 : Cond.fieldLink RX0 24 "BlockCard$Eraser" "begun" "I" ∈ wsX0_isBrokenOffBy := List.mem_of_getElem? (i := 1) rfl
theorem in_X0_isBrokenOffBy_0 : ∀ w ∈ wsX00, w ∈ wsX0_isBrokenOffBy := fun w h => List.mem_cons_of_mem _ (List.mem_append_right _ h)
set_option maxHeartbeats 4000000 in
set_option maxRecDepth 100000 in
theorem c_X0_isBrokenOffBy (l : Launch) (D : va_G) (cI cZ : ClassId) (h : Nat) (u : ob_S) (x1 : Int32)  : Ct_p l yX0_isBrokenOffBy wsX0_isBrokenOffBy ({ frames := 0, cells := 0, slots := 0, locals := 0 } : Room) D (ct_T cI cZ) [.ref h, .int x1] (w_0 h u) (f_X0_isBrokenOffBy u x1) := by
  refine en_p (cc := cX0_isBrokenOffBy) (maxL := 3) (ret := (some .boolean)) (own := RX0) (by decide +kernel) rfl rfl (Nat.le_of_ble_eq_true rfl) ?_
  intro p e s m args below meth c A ls C hr hlk hP hD hS hl
  have hx := C.1
  have hb := C.2.1
  have hl : lv_has ls 3 [(0, .ref h), (1, .int x1)] := hl
  refine lv_aload_n hx hb dX0_isBrokenOffBy_0 rfl (lv_at hl 0 rfl) ?_
  refine gt0_0 C hP in_X0_isBrokenOffBy_0 ln_X0_isBrokenOffBy_1 (v := (u.1 0)) rfl dX0_isBrokenOffBy_1 ?_
  refine lv_if_eq (tgt := 13) hx hb dX0_isBrokenOffBy_4 (by decide) (fun c_1 => ?_) (fun c_1 => ?_)
  · refine lv_iconst (v := 0) hx hb dX0_isBrokenOffBy_13 (by decide) ?_
    exact rt_q C hr hlk (Or.inl rfl) hS ((if_pos c_1).trans rfl) dX0_isBrokenOffBy_14
  · refine lv_iload_n hx hb dX0_isBrokenOffBy_7 rfl (lv_at hl 1 rfl) ?_
    refine lv_bipush (v := 13) hx hb dX0_isBrokenOffBy_8 (by decide) ?_
    refine lv_icmp_ne (tgt := 15) hx hb dX0_isBrokenOffBy_10 (by decide) (fun c_2 => ?_) (fun c_2 => ?_)
    · refine lv_aload_n hx hb dX0_isBrokenOffBy_15 rfl (lv_at hl 0 rfl) ?_
      refine gt0_0 C hP in_X0_isBrokenOffBy_0 ln_X0_isBrokenOffBy_1 (v := (u.1 0)) rfl dX0_isBrokenOffBy_16 ?_
      refine lv_iconst (v := 1) hx hb dX0_isBrokenOffBy_19 (by decide) ?_
      refine jn_i (g := fun x => F0 m 48 ls (.int x :: [])) ((if (u.1 0) = 1 then (if x1 = 33 then 1 else 0) else (if x1 = 38 then 1 else 0))) (fun y_3 ey_3 => ?_) (fun J_3 => ?_)
      · refine lv_istore_n (lv' := [(2, .int _), (0, .ref _), (1, .int _)]) hx hb dX0_isBrokenOffBy_48 rfl hl (by decide) rfl (fun ls hl => ?_)
        refine lv_iload_n hx hb dX0_isBrokenOffBy_49 rfl (lv_at hl 0 rfl) ?_
        refine lv_if_ne (tgt := 57) hx hb dX0_isBrokenOffBy_50 (by decide) (fun c_7 => ?_) (fun c_7 => ?_)
        · refine lv_iconst (v := 0) hx hb dX0_isBrokenOffBy_57 (by decide) ?_
          subst ey_3
          exact rt_q C hr hlk (Or.inl rfl) hS ((if_neg c_1).trans ((if_neg c_2).trans ((if_neg c_7).trans rfl))) dX0_isBrokenOffBy_58
        · refine lv_iconst (v := 1) hx hb dX0_isBrokenOffBy_53 (by decide) ?_
          refine lv_goto (tgt := 58) hx hb dX0_isBrokenOffBy_54 (by decide) ?_
          subst ey_3
          exact rt_q C hr hlk (Or.inr rfl) hS ((if_neg c_1).trans ((if_neg c_2).trans ((if_pos c_7).trans rfl))) dX0_isBrokenOffBy_58
      · refine lv_icmp_ne (tgt := 37) hx hb dX0_isBrokenOffBy_20 (by decide) (fun c_4 => ?_) (fun c_4 => ?_)
        · refine lv_iload_n hx hb dX0_isBrokenOffBy_37 rfl (lv_at hl 1 rfl) ?_
          refine lv_bipush (v := 38) hx hb dX0_isBrokenOffBy_38 (by decide) ?_
          refine lv_icmp_ne (tgt := 47) hx hb dX0_isBrokenOffBy_40 (by decide) (fun c_5 => ?_) (fun c_5 => ?_)
          · refine lv_iconst (v := 0) hx hb dX0_isBrokenOffBy_47 (by decide) ?_
            exact J_3 _ ((if_neg c_4).trans ((if_neg c_5).trans rfl)).symm
          · refine lv_iconst (v := 1) hx hb dX0_isBrokenOffBy_43 (by decide) ?_
            refine lv_goto (tgt := 48) hx hb dX0_isBrokenOffBy_44 (by decide) ?_
            exact J_3 _ ((if_neg c_4).trans ((if_pos c_5).trans rfl)).symm
        · refine lv_iload_n hx hb dX0_isBrokenOffBy_23 rfl (lv_at hl 1 rfl) ?_
          refine lv_bipush (v := 33) hx hb dX0_isBrokenOffBy_24 (by decide) ?_
          refine lv_icmp_ne (tgt := 33) hx hb dX0_isBrokenOffBy_26 (by decide) (fun c_6 => ?_) (fun c_6 => ?_)
          · refine lv_iconst (v := 0) hx hb dX0_isBrokenOffBy_33 (by decide) ?_
            refine lv_goto (tgt := 48) hx hb dX0_isBrokenOffBy_34 (by decide) ?_
            exact J_3 _ ((if_pos c_4).trans ((if_neg c_6).trans rfl)).symm
          · refine lv_iconst (v := 1) hx hb dX0_isBrokenOffBy_29 (by decide) ?_
            refine lv_goto (tgt := 48) hx hb dX0_isBrokenOffBy_30 (by decide) ?_
            exact J_3 _ ((if_pos c_4).trans ((if_pos c_6).trans rfl)).symm
    · refine lv_iconst (v := 0) hx hb dX0_isBrokenOffBy_13 (by decide) ?_
      exact rt_q C hr hlk (Or.inl rfl) hS ((if_neg c_1).trans ((if_pos c_2).trans rfl)) dX0_isBrokenOffBy_14
set_option maxHeartbeats 4000000 in
set_option maxRecDepth 100000 in
theorem c_X6_asNumber (l : Launch) (D : va_G) (cI cZ : ClassId)  (x0 : Int32)  : Ct_p l yX6_asNumber wsX6_asNumber ({ frames := 0, cells := 0, slots := 0, locals := 0 } : Room) D (ct_T cI cZ) [.int x0] [] (f_X6_asNumber x0) := by
  refine en_p (cc := cX6_asNumber) (maxL := 1) (ret := (some .int)) (own := RX6) (by decide +kernel) rfl rfl (Nat.le_of_ble_eq_true rfl) ?_
  intro p e s m args below meth c A ls C hr hlk hP hD hS hl
  have hx := C.1
  have hb := C.2.1
  have hl : lv_has ls 1 [(0, .int x0)] := hl
  refine lv_iload_n hx hb dX6_asNumber_0 rfl (lv_at hl 0 rfl) ?_
  refine lv_if_eq (tgt := 8) hx hb dX6_asNumber_1 (by decide) (fun c_1 => ?_) (fun c_1 => ?_)
  · refine lv_iconst (v := 0) hx hb dX6_asNumber_8 (by decide) ?_
    exact rt_p C hr hlk hS ((if_pos c_1).trans rfl) dX6_asNumber_9
  · refine lv_iconst (v := 1) hx hb dX6_asNumber_4 (by decide) ?_
    refine lv_goto (tgt := 9) hx hb dX6_asNumber_5 (by decide) ?_
    exact rt_p C hr hlk hS ((if_neg c_1).trans rfl) dX6_asNumber_9
theorem ln_X2_change_1 : Cond.fieldLink RX2 15 "BlockCard$Link" "speed" "I" ∈ wsX2_change := List.mem_of_getElem? (i := 1) rfl
theorem in_X2_change_2 : ∀ w ∈ wsX20, w ∈ wsX2_change := fun w h => List.mem_cons_of_mem _ (List.mem_append_right _ h)
theorem ln_X2_change_2 : Cond.fieldLink RX2 9 "BlockCard$Link" "lines" "I" ∈ wsX2_change := List.mem_of_getElem? (i := 2) rfl
set_option maxHeartbeats 4000000 in
set_option maxRecDepth 100000 in
theorem c_X2_change (l : Launch) (D : va_G) (cI cZ : ClassId) (h : Nat) (u : ob_S) (x1 : Int32) (x2 : Int32)  : Ct_i l yX2_change wsX2_change ({ frames := 0, cells := 0, slots := 0, locals := 0 } : Room) D (ct_T cI cZ) [.ref h, .int x1, .int x2] (w_2 h u) (fun u => (w_2 h u)) (f_X2_change u x1 x2) := by
  refine en_i (cc := cX2_change) (maxL := 3) (ret := (some .boolean)) (own := RX2) (by decide +kernel) rfl rfl (Nat.le_of_ble_eq_true rfl) ?_
  intro p e s m args below meth c A ls C hr hlk hP hD hS hl
  have hx := C.1
  have hb := C.2.1
  have hl : lv_has ls 3 [(0, .ref h), (1, .int x1), (2, .int x2)] := hl
  refine lv_iload_n hx hb dX2_change_0 rfl (lv_at hl 1 rfl) ?_
  refine lv_iconst (v := 3) hx hb dX2_change_1 (by decide) ?_
  refine lv_icmp_gt (tgt := 19) hx hb dX2_change_2 (by decide) (fun c_1 => ?_) (fun c_1 => ?_)
  · refine lv_iconst (v := 0) hx hb dX2_change_19 (by decide) ?_
    exact rt_z C hr hlk (Or.inl rfl) hP hD hS ((if_pos c_1).trans rfl) dX2_change_20
  · refine lv_iload_n hx hb dX2_change_5 rfl (lv_at hl 2 rfl) ?_
    refine lv_iconst (v := 2) hx hb dX2_change_6 (by decide) ?_
    refine lv_icmp_gt (tgt := 19) hx hb dX2_change_7 (by decide) (fun c_2 => ?_) (fun c_2 => ?_)
    · refine lv_iconst (v := 0) hx hb dX2_change_19 (by decide) ?_
      exact rt_z C hr hlk (Or.inl rfl) hP hD hS ((if_neg c_1).trans ((if_pos c_2).trans rfl)) dX2_change_20
    · refine lv_iload_n hx hb dX2_change_10 rfl (lv_at hl 2 rfl) ?_
      refine lv_if_ne (tgt := 21) hx hb dX2_change_11 (by decide) (fun c_3 => ?_) (fun c_3 => ?_)
      · refine lv_aload_n hx hb dX2_change_21 rfl (lv_at hl 0 rfl) ?_
        refine lv_iload_n hx hb dX2_change_22 rfl (lv_at hl 1 rfl) ?_
        refine pt2_1 C hP hD hS in_X2_change_2 ln_X2_change_1 dX2_change_23 (fun H locs hP hD hS => ?_)
        refine lv_aload_n hx hb dX2_change_26 rfl (lv_at hl 0 rfl) ?_
        refine lv_iload_n hx hb dX2_change_27 rfl (lv_at hl 2 rfl) ?_
        refine pt2_0 C hP hD hS in_X2_change_2 ln_X2_change_2 dX2_change_28 (fun H locs hP hD hS => ?_)
        refine lv_iconst (v := 1) hx hb dX2_change_31 (by decide) ?_
        exact rt_z C hr hlk (Or.inr rfl) hP hD hS ((if_neg c_1).trans ((if_neg c_2).trans ((if_neg c_3).trans rfl))) dX2_change_32
      · refine lv_iload_n hx hb dX2_change_14 rfl (lv_at hl 1 rfl) ?_
        refine lv_iconst (v := 1) hx hb dX2_change_15 (by decide) ?_
        refine lv_icmp_le (tgt := 21) hx hb dX2_change_16 (by decide) (fun c_4 => ?_) (fun c_4 => ?_)
        · refine lv_aload_n hx hb dX2_change_21 rfl (lv_at hl 0 rfl) ?_
          refine lv_iload_n hx hb dX2_change_22 rfl (lv_at hl 1 rfl) ?_
          refine pt2_1 C hP hD hS in_X2_change_2 ln_X2_change_1 dX2_change_23 (fun H locs hP hD hS => ?_)
          refine lv_aload_n hx hb dX2_change_26 rfl (lv_at hl 0 rfl) ?_
          refine lv_iload_n hx hb dX2_change_27 rfl (lv_at hl 2 rfl) ?_
          refine pt2_0 C hP hD hS in_X2_change_2 ln_X2_change_2 dX2_change_28 (fun H locs hP hD hS => ?_)
          refine lv_iconst (v := 1) hx hb dX2_change_31 (by decide) ?_
          exact rt_z C hr hlk (Or.inr rfl) hP hD hS ((if_neg c_1).trans ((if_neg c_2).trans ((if_pos c_3).trans ((if_pos c_4).trans rfl)))) dX2_change_32
        · refine lv_iconst (v := 0) hx hb dX2_change_19 (by decide) ?_
          exact rt_z C hr hlk (Or.inl rfl) hP hD hS ((if_neg c_1).trans ((if_neg c_2).trans ((if_pos c_3).trans ((if_neg c_4).trans rfl)))) dX2_change_20
theorem ln_X2_speed_1 : Cond.fieldLink RX2 15 "BlockCard$Link" "speed" "I" ∈ wsX2_speed := List.mem_of_getElem? (i := 1) rfl
theorem in_X2_speed_2 : ∀ w ∈ wsX20, w ∈ wsX2_speed := fun w h => List.mem_cons_of_mem _ (List.mem_append_right _ h)
set_option maxHeartbeats 4000000 in
set_option maxRecDepth 100000 in
theorem c_X2_speed (l : Launch) (D : va_G) (cI cZ : ClassId) (h : Nat) (u : ob_S)  : Ct_p l yX2_speed wsX2_speed ({ frames := 0, cells := 0, slots := 0, locals := 0 } : Room) D (ct_T cI cZ) [.ref h] (w_2 h u) (f_X2_speed u) := by
  refine en_p (cc := cX2_speed) (maxL := 1) (ret := (some .int)) (own := RX2) (by decide +kernel) rfl rfl (Nat.le_of_ble_eq_true rfl) ?_
  intro p e s m args below meth c A ls C hr hlk hP hD hS hl
  have hx := C.1
  have hb := C.2.1
  have hl : lv_has ls 1 [(0, .ref h)] := hl
  refine lv_aload_n hx hb dX2_speed_0 rfl (lv_at hl 0 rfl) ?_
  refine gt2_1 C hP in_X2_speed_2 ln_X2_speed_1 (v := (u.1 1)) rfl dX2_speed_1 ?_
  exact rt_p C hr hlk hS rfl dX2_speed_4
theorem ln_X2_lines_1 : Cond.fieldLink RX2 9 "BlockCard$Link" "lines" "I" ∈ wsX2_lines := List.mem_of_getElem? (i := 1) rfl
theorem in_X2_lines_2 : ∀ w ∈ wsX20, w ∈ wsX2_lines := fun w h => List.mem_cons_of_mem _ (List.mem_append_right _ h)
set_option maxHeartbeats 4000000 in
set_option maxRecDepth 100000 in
theorem c_X2_lines (l : Launch) (D : va_G) (cI cZ : ClassId) (h : Nat) (u : ob_S)  : Ct_p l yX2_lines wsX2_lines ({ frames := 0, cells := 0, slots := 0, locals := 0 } : Room) D (ct_T cI cZ) [.ref h] (w_2 h u) (f_X2_lines u) := by
  refine en_p (cc := cX2_lines) (maxL := 1) (ret := (some .int)) (own := RX2) (by decide +kernel) rfl rfl (Nat.le_of_ble_eq_true rfl) ?_
  intro p e s m args below meth c A ls C hr hlk hP hD hS hl
  have hx := C.1
  have hb := C.2.1
  have hl : lv_has ls 1 [(0, .ref h)] := hl
  refine lv_aload_n hx hb dX2_lines_0 rfl (lv_at hl 0 rfl) ?_
  refine gt2_0 C hP in_X2_lines_2 ln_X2_lines_1 (v := (u.1 0)) rfl dX2_lines_1 ?_
  exact rt_p C hr hlk hS rfl dX2_lines_4
theorem ln_X2_look_1 : Cond.fieldLink RX2 18 "BlockCard$Link" "point" "I" ∈ wsX2_look := List.mem_of_getElem? (i := 1) rfl
theorem in_X2_look_2 : ∀ w ∈ wsX20, w ∈ wsX2_look := fun w h => List.mem_cons_of_mem _ (List.mem_append_right _ h)
set_option maxHeartbeats 4000000 in
set_option maxRecDepth 100000 in
theorem c_X2_look (l : Launch) (D : va_G) (cI cZ : ClassId) (h : Nat) (u : ob_S) (x1 : Int32)  : Ct_v l yX2_look wsX2_look ({ frames := 0, cells := 0, slots := 0, locals := 0 } : Room) D (ct_T cI cZ) [.ref h, .int x1] (w_2 h u) (fun u => (w_2 h u)) (f_X2_look u x1) := by
  refine en_v (cc := cX2_look) (maxL := 2) (ret := none) (own := RX2) (by decide +kernel) rfl rfl (Nat.le_of_ble_eq_true rfl) ?_
  intro p e s m args below meth c A ls C hr hlk hP hD hS hl
  have hx := C.1
  have hb := C.2.1
  have hl : lv_has ls 2 [(0, .ref h), (1, .int x1)] := hl
  refine lv_aload_n hx hb dX2_look_0 rfl (lv_at hl 0 rfl) ?_
  refine lv_iload_n hx hb dX2_look_1 rfl (lv_at hl 1 rfl) ?_
  refine pt2_2 C hP hD hS in_X2_look_2 ln_X2_look_1 dX2_look_2 (fun H locs hP hD hS => ?_)
  exact rt_v C hr hlk hP hD hS rfl dX2_look_5
theorem ln_X2_isInWindow_1 : Cond.fieldLink RX2 15 "BlockCard$Link" "speed" "I" ∈ wsX2_isInWindow := List.mem_of_getElem? (i := 1) rfl
theorem in_X2_isInWindow_2 : ∀ w ∈ wsX20, w ∈ wsX2_isInWindow := fun w h => List.mem_cons_of_mem _ (List.mem_append_right _ h)
theorem ln_X2_isInWindow_2 : Cond.fieldLink RX2 18 "BlockCard$Link" "point" "I" ∈ wsX2_isInWindow := List.mem_of_getElem? (i := 2) rfl
theorem ln_X2_isInWindow_3 : Cond.methodLink RX2 27 Lib.Math.min.name ∈ wsX2_isInWindow := List.mem_of_getElem? (i := 3) rfl
theorem ln_X2_isInWindow_4 : Cond.static Lib.Math.min.name ∈ wsX2_isInWindow := List.mem_of_getElem? (i := 4) rfl
theorem ln_X2_isInWindow_5 : Cond.initialized "java/lang/Math" ∈ wsX2_isInWindow := List.mem_of_getElem? (i := 5) rfl
theorem ln_X2_isInWindow_6 : Cond.code Lib.Math.min.name Lib.Math.min.code 2 (some .int) ∈ wsX2_isInWindow := List.mem_of_getElem? (i := 6) rfl
set_option maxHeartbeats 4000000 in
set_option maxRecDepth 100000 in
theorem c_X2_isInWindow (l : Launch) (D : va_G) (cI cZ : ClassId) (h : Nat) (u : ob_S) (x1 : Int32)  : Ct_p l yX2_isInWindow wsX2_isInWindow ({ frames := 1, cells := 0, slots := 0, locals := 24 } : Room) D (ct_T cI cZ) [.ref h, .int x1] (w_2 h u) (f_X2_isInWindow u x1) := by
  refine en_p (cc := cX2_isInWindow) (maxL := 5) (ret := (some .boolean)) (own := RX2) (by decide +kernel) rfl rfl (Nat.le_of_ble_eq_true rfl) ?_
  intro p e s m args below meth c A ls C hr hlk hP hD hS hl
  have hx := C.1
  have hb := C.2.1
  have hl : lv_has ls 5 [(0, .ref h), (1, .int x1)] := hl
  refine lv_iconst (v := 3) hx hb dX2_isInWindow_0 (by decide) ?_
  refine lv_iconst (v := 5) hx hb dX2_isInWindow_1 (by decide) ?_
  refine lv_aload_n hx hb dX2_isInWindow_2 rfl (lv_at hl 0 rfl) ?_
  refine gt2_1 C hP in_X2_isInWindow_2 ln_X2_isInWindow_1 (v := (u.1 1)) rfl dX2_isInWindow_3 ?_
  refine lv_imul hx hb dX2_isInWindow_6 ?_
  refine lv_iadd hx hb dX2_isInWindow_7 ?_
  refine lv_iload_n hx hb dX2_isInWindow_8 rfl (lv_at hl 1 rfl) ?_
  refine lv_iadd hx hb dX2_isInWindow_9 ?_
  refine lv_bipush (v := 16) hx hb dX2_isInWindow_10 (by decide) ?_
  refine lv_irem hx hb dX2_isInWindow_12 (by decide) ?_
  refine lv_istore_n (lv' := [(2, .int _), (0, .ref _), (1, .int _)]) hx hb dX2_isInWindow_13 rfl hl (by decide) rfl (fun ls hl => ?_)
  refine lv_aload_n hx hb dX2_isInWindow_14 rfl (lv_at hl 1 rfl) ?_
  refine gt2_2 C hP in_X2_isInWindow_2 ln_X2_isInWindow_2 (v := (u.1 2)) rfl dX2_isInWindow_15 ?_
  refine lv_iload_n hx hb dX2_isInWindow_18 rfl (lv_at hl 0 rfl) ?_
  refine lv_isub hx hb dX2_isInWindow_19 ?_
  refine lv_bipush (v := 16) hx hb dX2_isInWindow_20 (by decide) ?_
  refine ks_p C (c_J9_floorMod_7cf53 l D cI cZ ((u.1 2) - (((3 + (5 * (u.1 1))) + x1) - ((3 + (5 * (u.1 1))) + x1) / 16 * 16)) 16 (by decide)) (va_cwS 2 C.2.2.2.2.1 gX2_isInWindow_J9_floorMod_7cf53 rfl rfl rfl hdJ9_floorMod_7cf53 ⟨Nat.le_of_ble_eq_true rfl, Nat.le_of_ble_eq_true rfl⟩) hP hD hS rfl hl.1 rfl (Nat.le_of_ble_eq_true rfl) dX2_isInWindow_22 ⟨Nat.zero_le _, Nat.zero_le _⟩ (fun H locs hP hS => ?_)
  refine lv_istore_n (lv' := [(3, .int _), (2, .int _), (0, .ref _), (1, .int _)]) hx hb dX2_isInWindow_25 rfl hl (by decide) rfl (fun ls hl => ?_)
  refine lv_iload_n hx hb dX2_isInWindow_26 rfl (lv_at hl 0 rfl) ?_
  refine lv_bipush (v := 16) hx hb dX2_isInWindow_27 (by decide) ?_
  refine lv_iload_n hx hb dX2_isInWindow_29 rfl (lv_at hl 0 rfl) ?_
  refine lv_isub hx hb dX2_isInWindow_30 ?_
  refine va_mmin hx hb (C.2.2.1.trans hl.1.symm) C.2.2.2.1 (C.2.2.2.2.1 _ ln_X2_isInWindow_3) (C.2.2.2.2.1 _ ln_X2_isInWindow_4) (C.2.2.2.2.1 _ ln_X2_isInWindow_5) (C.2.2.2.2.1 _ ln_X2_isInWindow_6) (Nat.le_of_ble_eq_true rfl) (Nat.le_of_ble_eq_true rfl) (Nat.zero_le _) (Nat.zero_le _) dX2_isInWindow_31 ?_
  refine lv_istore (lv' := [(4, .int _), (3, .int _), (2, .int _), (0, .ref _), (1, .int _)]) hx hb dX2_isInWindow_34 hl (by decide) rfl (fun ls hl => ?_)
  refine lv_iload hx hb dX2_isInWindow_36 (lv_at hl 0 rfl) ?_
  refine lv_bipush (v := 7) hx hb dX2_isInWindow_38 (by decide) ?_
  refine lv_iconst (v := 2) hx hb dX2_isInWindow_40 (by decide) ?_
  refine lv_aload_n hx hb dX2_isInWindow_41 rfl (lv_at hl 3 rfl) ?_
  refine gt2_1 C hP in_X2_isInWindow_2 ln_X2_isInWindow_1 (v := (u.1 1)) rfl dX2_isInWindow_42 ?_
  refine lv_imul hx hb dX2_isInWindow_45 ?_
  refine lv_isub hx hb dX2_isInWindow_46 ?_
  refine lv_icmp_gt (tgt := 54) hx hb dX2_isInWindow_47 (by decide) (fun c_1 => ?_) (fun c_1 => ?_)
  · refine lv_iconst (v := 0) hx hb dX2_isInWindow_54 (by decide) ?_
    exact rt_q C hr hlk (Or.inl rfl) hS ((if_pos c_1).trans rfl) dX2_isInWindow_55
  · refine lv_iconst (v := 1) hx hb dX2_isInWindow_50 (by decide) ?_
    refine lv_goto (tgt := 55) hx hb dX2_isInWindow_51 (by decide) ?_
    exact rt_q C hr hlk (Or.inr rfl) hS ((if_neg c_1).trans rfl) dX2_isInWindow_55
theorem ln_X5_expect_1 : Cond.fieldLink RX5 7 "BlockCard$Stream" "expected" "I" ∈ wsX5_expect := List.mem_of_getElem? (i := 1) rfl
theorem in_X5_expect_5 : ∀ w ∈ wsX50, w ∈ wsX5_expect := fun w h => List.mem_cons_of_mem _ (List.mem_append_right _ h)
set_option maxHeartbeats 4000000 in
set_option maxRecDepth 100000 in
theorem c_X5_expect (l : Launch) (D : va_G) (cI cZ : ClassId) (h : Nat) (u : ob_S) (x1 : Int32)  : Ct_v l yX5_expect wsX5_expect ({ frames := 0, cells := 0, slots := 0, locals := 0 } : Room) D (ct_T cI cZ) [.ref h, .int x1] (w_5 h u) (fun u => (w_5 h u)) (f_X5_expect u x1) := by
  refine en_v (cc := cX5_expect) (maxL := 2) (ret := none) (own := RX5) (by decide +kernel) rfl rfl (Nat.le_of_ble_eq_true rfl) ?_
  intro p e s m args below meth c A ls C hr hlk hP hD hS hl
  have hx := C.1
  have hb := C.2.1
  have hl : lv_has ls 2 [(0, .ref h), (1, .int x1)] := hl
  refine lv_aload_n hx hb dX5_expect_0 rfl (lv_at hl 0 rfl) ?_
  refine lv_iload_n hx hb dX5_expect_1 rfl (lv_at hl 1 rfl) ?_
  refine pt5_0 C hP hD hS in_X5_expect_5 ln_X5_expect_1 dX5_expect_2 (fun H locs hP hD hS => ?_)
  exact rt_v C hr hlk hP hD hS rfl dX5_expect_5
theorem ln_X5_begin_1 : Cond.fieldLink RX5 13 "BlockCard$Stream" "next" "I" ∈ wsX5_begin := List.mem_of_getElem? (i := 1) rfl
theorem in_X5_begin_5 : ∀ w ∈ wsX50, w ∈ wsX5_begin := fun w h => List.mem_cons_of_mem _ (List.mem_append_right _ h)
theorem ln_X5_begin_2 : Cond.fieldLink RX5 7 "BlockCard$Stream" "expected" "I" ∈ wsX5_begin := List.mem_of_getElem? (i := 2) rfl
theorem ln_X5_begin_3 : Cond.fieldLink RX5 16 "BlockCard$Stream" "left" "I" ∈ wsX5_begin := List.mem_of_getElem? (i := 3) rfl
theorem ln_X5_begin_4 : Cond.fieldLink RX5 19 "BlockCard$Stream" "counted" "Z" ∈ wsX5_begin := List.mem_of_getElem? (i := 4) rfl
theorem ln_X5_begin_5 : Cond.fieldLink RX5 23 "BlockCard$Stream" "wrong" "Z" ∈ wsX5_begin := List.mem_of_getElem? (i := 5) rfl
set_option maxHeartbeats 4000000 in
set_option maxRecDepth 100000 in
theorem c_X5_begin (l : Launch) (D : va_G) (cI cZ : ClassId) (h : Nat) (u : ob_S) (x1 : Int32) (x2 : Int32)  : Ct_v l yX5_begin wsX5_begin ({ frames := 0, cells := 0, slots := 0, locals := 0 } : Room) D (ct_T cI cZ) [.ref h, .int x1, .int x2] (w_5 h u) (fun u => (w_5 h u)) (f_X5_begin u x1 x2) := by
  refine en_v (cc := cX5_begin) (maxL := 3) (ret := none) (own := RX5) (by decide +kernel) rfl rfl (Nat.le_of_ble_eq_true rfl) ?_
  intro p e s m args below meth c A ls C hr hlk hP hD hS hl
  have hx := C.1
  have hb := C.2.1
  have hl : lv_has ls 3 [(0, .ref h), (1, .int x1), (2, .int x2)] := hl
  refine lv_aload_n hx hb dX5_begin_0 rfl (lv_at hl 0 rfl) ?_
  refine lv_iload_n hx hb dX5_begin_1 rfl (lv_at hl 1 rfl) ?_
  refine pt5_1 C hP hD hS in_X5_begin_5 ln_X5_begin_1 dX5_begin_2 (fun H locs hP hD hS => ?_)
  refine lv_aload_n hx hb dX5_begin_5 rfl (lv_at hl 0 rfl) ?_
  refine lv_iload_n hx hb dX5_begin_6 rfl (lv_at hl 2 rfl) ?_
  refine jn_i (g := fun x => F0 m 18 ls (.int x :: [.ref h])) ((if x2 = 0 then (u.1 0) else 1)) (fun y_1 ey_1 => ?_) (fun J_1 => ?_)
  · refine pt5_2 C hP hD hS in_X5_begin_5 ln_X5_begin_3 dX5_begin_18 (fun H locs hP hD hS => ?_)
    refine lv_aload_n hx hb dX5_begin_21 rfl (lv_at hl 0 rfl) ?_
    refine lv_aload_n hx hb dX5_begin_22 rfl (lv_at hl 0 rfl) ?_
    refine gt5_2 C hP in_X5_begin_5 ln_X5_begin_3 (v := y_1) rfl dX5_begin_23 ?_
    refine jn_i (g := fun x => F0 m 34 ls (.int x :: [.ref h])) ((if y_1 ≤ 0 then 0 else 1)) (fun y_3 ey_3 => ?_) (fun J_3 => ?_)
    · refine pt5_3 C hP hD hS in_X5_begin_5 ln_X5_begin_4 (ey_3 ▸ (bz_ite (Or.inl rfl) (Or.inr rfl))) dX5_begin_34 (fun H locs hP hD hS => ?_)
      refine lv_aload_n hx hb dX5_begin_37 rfl (lv_at hl 0 rfl) ?_
      refine lv_iconst (v := 0) hx hb dX5_begin_38 (by decide) ?_
      refine pt5_4 C hP hD hS in_X5_begin_5 ln_X5_begin_5 (Or.inl rfl) dX5_begin_39 (fun H locs hP hD hS => ?_)
      refine lv_aload_n hx hb dX5_begin_42 rfl (lv_at hl 0 rfl) ?_
      refine lv_iconst (v := 0) hx hb dX5_begin_43 (by decide) ?_
      refine pt5_0 C hP hD hS in_X5_begin_5 ln_X5_begin_2 dX5_begin_44 (fun H locs hP hD hS => ?_)
      subst ey_1 ey_3
      exact rt_v C hr hlk hP hD hS rfl dX5_begin_47
    · refine lv_if_le (tgt := 33) hx hb dX5_begin_26 (by decide) (fun c_4 => ?_) (fun c_4 => ?_)
      · refine lv_iconst (v := 0) hx hb dX5_begin_33 (by decide) ?_
        exact J_3 _ ((if_pos c_4).trans rfl).symm
      · refine lv_iconst (v := 1) hx hb dX5_begin_29 (by decide) ?_
        refine lv_goto (tgt := 34) hx hb dX5_begin_30 (by decide) ?_
        exact J_3 _ ((if_neg c_4).trans rfl).symm
  · refine lv_if_eq (tgt := 14) hx hb dX5_begin_7 (by decide) (fun c_2 => ?_) (fun c_2 => ?_)
    · refine lv_aload_n hx hb dX5_begin_14 rfl (lv_at hl 0 rfl) ?_
      refine gt5_0 C hP in_X5_begin_5 ln_X5_begin_2 (v := (u.1 0)) rfl dX5_begin_15 ?_
      exact J_1 _ ((if_pos c_2).trans rfl).symm
    · refine lv_iconst (v := 1) hx hb dX5_begin_10 (by decide) ?_
      refine lv_goto (tgt := 18) hx hb dX5_begin_11 (by decide) ?_
      exact J_1 _ ((if_neg c_2).trans rfl).symm
theorem ln_X4_size_1 : Cond.fieldLink RX4 18 "BlockCard$Queue" "size" "I" ∈ wsX4_size := List.mem_of_getElem? (i := 1) rfl
theorem in_X4_size_4 : ∀ w ∈ wsX40, w ∈ wsX4_size := fun w h => List.mem_cons_of_mem _ (List.mem_append_right _ h)
set_option maxHeartbeats 4000000 in
set_option maxRecDepth 100000 in
theorem c_X4_size (l : Launch) (D : va_G) (cI cZ : ClassId) (h h1 h2 : Nat) (u : ob_S)  : Ct_p l yX4_size wsX4_size ({ frames := 0, cells := 0, slots := 0, locals := 0 } : Room) D (ct_T cI cZ) [.ref h] (w_4 cI h h1 h2 u) (f_X4_size u) := by
  refine en_p (cc := cX4_size) (maxL := 1) (ret := (some .int)) (own := RX4) (by decide +kernel) rfl rfl (Nat.le_of_ble_eq_true rfl) ?_
  intro p e s m args below meth c A ls C hr hlk hP hD hS hl
  have hx := C.1
  have hb := C.2.1
  have hl : lv_has ls 1 [(0, .ref h)] := hl
  refine lv_aload_n hx hb dX4_size_0 rfl (lv_at hl 0 rfl) ?_
  refine gt4_2 C hP in_X4_size_4 ln_X4_size_1 (v := (u.1 2)) rfl dX4_size_1 ?_
  exact rt_p C hr hlk hS rfl dX4_size_4
theorem ln_X0_beginFrom_1 : Cond.fieldLink RX0 24 "BlockCard$Eraser" "begun" "I" ∈ wsX0_beginFrom := List.mem_of_getElem? (i := 1) rfl
theorem in_X0_beginFrom_0 : ∀ w ∈ wsX00, w ∈ wsX0_beginFrom := fun w h => List.mem_cons_of_mem _ (List.mem_append_right _ h)
theorem ln_X0_beginFrom_2 : Cond.fieldLink RX0 27 "BlockCard$Eraser" "from" "I" ∈ wsX0_beginFrom := List.mem_of_getElem? (i := 2) rfl
set_option maxHeartbeats 4000000 in
set_option maxRecDepth 100000 in
theorem c_X0_beginFrom (l : Launch) (D : va_G) (cI cZ : ClassId) (h : Nat) (u : ob_S) (x1 : Int32)  : Ct_v l yX0_beginFrom wsX0_beginFrom ({ frames := 0, cells := 0, slots := 0, locals := 0 } : Room) D (ct_T cI cZ) [.ref h, .int x1] (w_0 h u) (fun u => (w_0 h u)) (f_X0_beginFrom u x1) := by
  refine en_v (cc := cX0_beginFrom) (maxL := 2) (ret := none) (own := RX0) (by decide +kernel) rfl rfl (Nat.le_of_ble_eq_true rfl) ?_
  intro p e s m args below meth c A ls C hr hlk hP hD hS hl
  have hx := C.1
  have hb := C.2.1
  have hl : lv_has ls 2 [(0, .ref h), (1, .int x1)] := hl
  refine lv_aload_n hx hb dX0_beginFrom_0 rfl (lv_at hl 0 rfl) ?_
  refine lv_iconst (v := 1) hx hb dX0_beginFrom_1 (by decide) ?_
  refine pt0_0 C hP hD hS in_X0_beginFrom_0 ln_X0_beginFrom_1 dX0_beginFrom_2 (fun H locs hP hD hS => ?_)
  refine lv_aload_n hx hb dX0_beginFrom_5 rfl (lv_at hl 0 rfl) ?_
  refine lv_iload_n hx hb dX0_beginFrom_6 rfl (lv_at hl 1 rfl) ?_
  refine pt0_1 C hP hD hS in_X0_beginFrom_0 ln_X0_beginFrom_2 dX0_beginFrom_7 (fun H locs hP hD hS => ?_)
  exact rt_v C hr hlk hP hD hS rfl dX0_beginFrom_10
theorem ln_X0_continueTo_1 : Cond.fieldLink RX0 24 "BlockCard$Eraser" "begun" "I" ∈ wsX0_continueTo := List.mem_of_getElem? (i := 1) rfl
theorem in_X0_continueTo_0 : ∀ w ∈ wsX00, w ∈ wsX0_continueTo := fun w h => List.mem_cons_of_mem _ (List.mem_append_right _ h)
theorem ln_X0_continueTo_2 : Cond.fieldLink RX0 27 "BlockCard$Eraser" "from" "I" ∈ wsX0_continueTo := List.mem_of_getElem? (i := 2) rfl
theorem ln_X0_continueTo_3 : Cond.fieldLink RX0 30 "BlockCard$Eraser" "to" "I" ∈ wsX0_continueTo := List.mem_of_getElem? (i := 3) rfl
set_option maxHeartbeats 4000000 in
set_option maxRecDepth 100000 in
theorem c_X0_continueTo (l : Launch) (D : va_G) (cI cZ : ClassId) (h : Nat) (u : ob_S) (x1 : Int32)  : Ct_i l yX0_continueTo wsX0_continueTo ({ frames := 0, cells := 0, slots := 0, locals := 0 } : Room) D (ct_T cI cZ) [.ref h, .int x1] (w_0 h u) (fun u => (w_0 h u)) (f_X0_continueTo u x1) := by
  refine en_i (cc := cX0_continueTo) (maxL := 2) (ret := (some .boolean)) (own := RX0) (by decide +kernel) rfl rfl (Nat.le_of_ble_eq_true rfl) ?_
  intro p e s m args below meth c A ls C hr hlk hP hD hS hl
  have hx := C.1
  have hb := C.2.1
  have hl : lv_has ls 2 [(0, .ref h), (1, .int x1)] := hl
  refine lv_aload_n hx hb dX0_continueTo_0 rfl (lv_at hl 0 rfl) ?_
  refine gt0_0 C hP in_X0_continueTo_0 ln_X0_continueTo_1 (v := (u.1 0)) rfl dX0_continueTo_1 ?_
  refine lv_iconst (v := 1) hx hb dX0_continueTo_4 (by decide) ?_
  refine lv_icmp_ne (tgt := 16) hx hb dX0_continueTo_5 (by decide) (fun c_1 => ?_) (fun c_1 => ?_)
  · refine lv_iconst (v := 0) hx hb dX0_continueTo_16 (by decide) ?_
    exact rt_z C hr hlk (Or.inl rfl) hP hD hS ((if_neg c_1).trans rfl) dX0_continueTo_17
  · refine lv_iload_n hx hb dX0_continueTo_8 rfl (lv_at hl 1 rfl) ?_
    refine lv_aload_n hx hb dX0_continueTo_9 rfl (lv_at hl 0 rfl) ?_
    refine gt0_1 C hP in_X0_continueTo_0 ln_X0_continueTo_2 (v := (u.1 1)) rfl dX0_continueTo_10 ?_
    refine lv_icmp_ge (tgt := 18) hx hb dX0_continueTo_13 (by decide) (fun c_2 => ?_) (fun c_2 => ?_)
    · refine lv_aload_n hx hb dX0_continueTo_18 rfl (lv_at hl 0 rfl) ?_
      refine lv_iconst (v := 2) hx hb dX0_continueTo_19 (by decide) ?_
      refine pt0_0 C hP hD hS in_X0_continueTo_0 ln_X0_continueTo_1 dX0_continueTo_20 (fun H locs hP hD hS => ?_)
      refine lv_aload_n hx hb dX0_continueTo_23 rfl (lv_at hl 0 rfl) ?_
      refine lv_iload_n hx hb dX0_continueTo_24 rfl (lv_at hl 1 rfl) ?_
      refine pt0_2 C hP hD hS in_X0_continueTo_0 ln_X0_continueTo_3 dX0_continueTo_25 (fun H locs hP hD hS => ?_)
      refine lv_iconst (v := 1) hx hb dX0_continueTo_28 (by decide) ?_
      exact rt_z C hr hlk (Or.inr rfl) hP hD hS ((if_pos c_1).trans ((if_pos c_2).trans rfl)) dX0_continueTo_29
    · refine lv_iconst (v := 0) hx hb dX0_continueTo_16 (by decide) ?_
      exact rt_z C hr hlk (Or.inl rfl) hP hD hS ((if_pos c_1).trans ((if_neg c_2).trans rfl)) dX0_continueTo_17
theorem ln_X0_isReady_1 : Cond.fieldLink RX0 24 "BlockCard$Eraser" "begun" "I" ∈ wsX0_isReady := List.mem_of_getElem? (i := 1) rfl
theorem in_X0_isReady_0 : ∀ w ∈ wsX00, w ∈ wsX0_isReady := fun w h => List.mem_cons_of_mem _ (List.mem_append_right _ h)
set_option maxHeartbeats 4000000 in
set_option maxRecDepth 100000 in
theorem c_X0_isReady (l : Launch) (D : va_G) (cI cZ : ClassId) (h : Nat) (u : ob_S)  : Ct_p l yX0_isReady wsX0_isReady ({ frames := 0, cells := 0, slots := 0, locals := 0 } : Room) D (ct_T cI cZ) [.ref h] (w_0 h u) (f_X0_isReady u) := by
  refine en_p (cc := cX0_isReady) (maxL := 1) (ret := (some .boolean)) (own := RX0) (by decide +kernel) rfl rfl (Nat.le_of_ble_eq_true rfl) ?_
  intro p e s m args below meth c A ls C hr hlk hP hD hS hl
  have hx := C.1
  have hb := C.2.1
  have hl : lv_has ls 1 [(0, .ref h)] := hl
  refine lv_aload_n hx hb dX0_isReady_0 rfl (lv_at hl 0 rfl) ?_
  refine gt0_0 C hP in_X0_isReady_0 ln_X0_isReady_1 (v := (u.1 0)) rfl dX0_isReady_1 ?_
  refine lv_iconst (v := 2) hx hb dX0_isReady_4 (by decide) ?_
  refine lv_icmp_ne (tgt := 12) hx hb dX0_isReady_5 (by decide) (fun c_1 => ?_) (fun c_1 => ?_)
  · refine lv_iconst (v := 0) hx hb dX0_isReady_12 (by decide) ?_
    exact rt_q C hr hlk (Or.inl rfl) hS ((if_neg c_1).trans rfl) dX0_isReady_13
  · refine lv_iconst (v := 1) hx hb dX0_isReady_8 (by decide) ?_
    refine lv_goto (tgt := 13) hx hb dX0_isReady_9 (by decide) ?_
    exact rt_q C hr hlk (Or.inr rfl) hS ((if_pos c_1).trans rfl) dX0_isReady_13
theorem ln_X0_from_1 : Cond.fieldLink RX0 27 "BlockCard$Eraser" "from" "I" ∈ wsX0_from := List.mem_of_getElem? (i := 1) rfl
theorem in_X0_from_0 : ∀ w ∈ wsX00, w ∈ wsX0_from := fun w h => List.mem_cons_of_mem _ (List.mem_append_right _ h)
set_option maxHeartbeats 4000000 in
set_option maxRecDepth 100000 in
theorem c_X0_from (l : Launch) (D : va_G) (cI cZ : ClassId) (h : Nat) (u : ob_S)  : Ct_p l yX0_from wsX0_from ({ frames := 0, cells := 0, slots := 0, locals := 0 } : Room) D (ct_T cI cZ) [.ref h] (w_0 h u) (f_X0_from u) := by
  refine en_p (cc := cX0_from) (maxL := 1) (ret := (some .int)) (own := RX0) (by decide +kernel) rfl rfl (Nat.le_of_ble_eq_true rfl) ?_
  intro p e s m args below meth c A ls C hr hlk hP hD hS hl
  have hx := C.1
  have hb := C.2.1
  have hl : lv_has ls 1 [(0, .ref h)] := hl
  refine lv_aload_n hx hb dX0_from_0 rfl (lv_at hl 0 rfl) ?_
  refine gt0_1 C hP in_X0_from_0 ln_X0_from_1 (v := (u.1 1)) rfl dX0_from_1 ?_
  exact rt_p C hr hlk hS rfl dX0_from_4
theorem ln_X0_to_1 : Cond.fieldLink RX0 30 "BlockCard$Eraser" "to" "I" ∈ wsX0_to := List.mem_of_getElem? (i := 1) rfl
theorem in_X0_to_0 : ∀ w ∈ wsX00, w ∈ wsX0_to := fun w h => List.mem_cons_of_mem _ (List.mem_append_right _ h)
set_option maxHeartbeats 4000000 in
set_option maxRecDepth 100000 in
theorem c_X0_to (l : Launch) (D : va_G) (cI cZ : ClassId) (h : Nat) (u : ob_S)  : Ct_p l yX0_to wsX0_to ({ frames := 0, cells := 0, slots := 0, locals := 0 } : Room) D (ct_T cI cZ) [.ref h] (w_0 h u) (f_X0_to u) := by
  refine en_p (cc := cX0_to) (maxL := 1) (ret := (some .int)) (own := RX0) (by decide +kernel) rfl rfl (Nat.le_of_ble_eq_true rfl) ?_
  intro p e s m args below meth c A ls C hr hlk hP hD hS hl
  have hx := C.1
  have hb := C.2.1
  have hl : lv_has ls 1 [(0, .ref h)] := hl
  refine lv_aload_n hx hb dX0_to_0 rfl (lv_at hl 0 rfl) ?_
  refine gt0_2 C hP in_X0_to_0 ln_X0_to_1 (v := (u.1 2)) rfl dX0_to_1 ?_
  exact rt_p C hr hlk hS rfl dX0_to_4
theorem ln_X0_begin_1 : Cond.fieldLink RX0 14 "BlockCard$Eraser" "lowest" "I" ∈ wsX0_begin := List.mem_of_getElem? (i := 1) rfl
theorem in_X0_begin_0 : ∀ w ∈ wsX00, w ∈ wsX0_begin := fun w h => List.mem_cons_of_mem _ (List.mem_append_right _ h)
theorem ln_X0_begin_2 : Cond.fieldLink RX0 18 "BlockCard$Eraser" "left" "I" ∈ wsX0_begin := List.mem_of_getElem? (i := 2) rfl
theorem ln_X0_begin_3 : Cond.fieldLink RX0 21 "BlockCard$Eraser" "ticksOfLowest" "I" ∈ wsX0_begin := List.mem_of_getElem? (i := 3) rfl
set_option maxHeartbeats 4000000 in
set_option maxRecDepth 100000 in
theorem c_X0_begin (l : Launch) (D : va_G) (cI cZ : ClassId) (h : Nat) (u : ob_S) (x1 : Int32) (x2 : Int32)  : Ct_v l yX0_begin wsX0_begin ({ frames := 1, cells := 0, slots := 0, locals := 20 } : Room) D (ct_T cI cZ) [.ref h, .int x1, .int x2] (w_0 h u) (fun u => (w_0 h u)) (f_X0_begin u x1 x2) := by
  refine en_v (cc := cX0_begin) (maxL := 3) (ret := none) (own := RX0) (by decide +kernel) rfl rfl (Nat.le_of_ble_eq_true rfl) ?_
  intro p e s m args below meth c A ls C hr hlk hP hD hS hl
  have hx := C.1
  have hb := C.2.1
  have hl : lv_has ls 3 [(0, .ref h), (1, .int x1), (2, .int x2)] := hl
  refine lv_aload_n hx hb dX0_begin_0 rfl (lv_at hl 0 rfl) ?_
  refine kv_v C (c_X0_forget l D cI cZ h u  ) (cwV 0 C.2.2.2.2.1 gX0_begin_X0_forget rfl rfl rfl hdX0_forget ⟨Nat.le_of_ble_eq_true rfl, Nat.le_of_ble_eq_true rfl⟩) (ci := 0) (q0 := 0) rfl rfl rfl hP hD hS (sp_self (fun u => (w_0 h u)) 1 (fun _ => rfl)) rfl hl.1 rfl (Nat.le_of_ble_eq_true rfl) dX0_begin_1 ⟨Nat.zero_le _, Nat.zero_le _⟩ (fun H locs hP hD hS => ?_)
  refine lv_aload_n hx hb dX0_begin_4 rfl (lv_at hl 0 rfl) ?_
  refine lv_iload_n hx hb dX0_begin_5 rfl (lv_at hl 1 rfl) ?_
  refine pt0_3 C hP hD hS in_X0_begin_0 ln_X0_begin_1 dX0_begin_6 (fun H locs hP hD hS => ?_)
  refine lv_aload_n hx hb dX0_begin_9 rfl (lv_at hl 0 rfl) ?_
  refine lv_iload_n hx hb dX0_begin_10 rfl (lv_at hl 2 rfl) ?_
  refine lv_iload_n hx hb dX0_begin_11 rfl (lv_at hl 1 rfl) ?_
  refine lv_isub hx hb dX0_begin_12 ?_
  refine lv_iconst (v := 1) hx hb dX0_begin_13 (by decide) ?_
  refine lv_iadd hx hb dX0_begin_14 ?_
  refine pt0_4 C hP hD hS in_X0_begin_0 ln_X0_begin_2 dX0_begin_15 (fun H locs hP hD hS => ?_)
  refine lv_aload_n hx hb dX0_begin_18 rfl (lv_at hl 0 rfl) ?_
  refine lv_iconst (v := 0) hx hb dX0_begin_19 (by decide) ?_
  refine pt0_5 C hP hD hS in_X0_begin_0 ln_X0_begin_3 dX0_begin_20 (fun H locs hP hD hS => ?_)
  exact rt_v C hr hlk hP hD hS rfl dX0_begin_23
theorem ln_X0_groupsLeft_1 : Cond.fieldLink RX0 18 "BlockCard$Eraser" "left" "I" ∈ wsX0_groupsLeft := List.mem_of_getElem? (i := 1) rfl
theorem in_X0_groupsLeft_0 : ∀ w ∈ wsX00, w ∈ wsX0_groupsLeft := fun w h => List.mem_cons_of_mem _ (List.mem_append_right _ h)
set_option maxHeartbeats 4000000 in
set_option maxRecDepth 100000 in
theorem c_X0_groupsLeft (l : Launch) (D : va_G) (cI cZ : ClassId) (h : Nat) (u : ob_S)  : Ct_p l yX0_groupsLeft wsX0_groupsLeft ({ frames := 0, cells := 0, slots := 0, locals := 0 } : Room) D (ct_T cI cZ) [.ref h] (w_0 h u) (f_X0_groupsLeft u) := by
  refine en_p (cc := cX0_groupsLeft) (maxL := 1) (ret := (some .int)) (own := RX0) (by decide +kernel) rfl rfl (Nat.le_of_ble_eq_true rfl) ?_
  intro p e s m args below meth c A ls C hr hlk hP hD hS hl
  have hx := C.1
  have hb := C.2.1
  have hl : lv_has ls 1 [(0, .ref h)] := hl
  refine lv_aload_n hx hb dX0_groupsLeft_0 rfl (lv_at hl 0 rfl) ?_
  refine gt0_4 C hP in_X0_groupsLeft_0 ln_X0_groupsLeft_1 (v := (u.1 4)) rfl dX0_groupsLeft_1 ?_
  exact rt_p C hr hlk hS rfl dX0_groupsLeft_4
theorem ln_X1_at_1 : Cond.fieldLink RX1 21 "BlockCard$Letters" "length" "I" ∈ wsX1_at := List.mem_of_getElem? (i := 1) rfl
theorem in_X1_at_1 : ∀ w ∈ wsX10, w ∈ wsX1_at := fun w h => List.mem_cons_of_mem _ (List.mem_append_right _ h)
theorem ln_X1_at_2 : Cond.fieldLink RX1 15 "BlockCard$Letters" "signs" "[I" ∈ wsX1_at := List.mem_of_getElem? (i := 2) rfl
set_option maxHeartbeats 4000000 in
set_option maxRecDepth 100000 in
theorem c_X1_at (l : Launch) (D : va_G) (cI cZ : ClassId) (N h h1 : Nat) (u : ob_S) (x1 : Int32) (hN : N < 2147483648) : Ct_p l yX1_at wsX1_at ({ frames := 0, cells := 0, slots := 0, locals := 0 } : Room) D (ct_T cI cZ) [.ref h, .int x1] (w_1 cI N h h1 u) (f_X1_at N u x1) := by
  refine en_p (cc := cX1_at) (maxL := 2) (ret := (some .int)) (own := RX1) (by decide +kernel) rfl rfl (Nat.le_of_ble_eq_true rfl) ?_
  intro p e s m args below meth c A ls C hr hlk hP hD hS hl
  have hx := C.1
  have hb := C.2.1
  have hl : lv_has ls 2 [(0, .ref h), (1, .int x1)] := hl
  refine lv_iload_n hx hb dX1_at_0 rfl (lv_at hl 1 rfl) ?_
  refine lv_if_lt (tgt := 30) hx hb dX1_at_1 (by decide) (fun c_1 => ?_) (fun c_1 => ?_)
  · refine lv_bipush (v := (-4)) hx hb dX1_at_30 (by decide) ?_
    exact rt_p C hr hlk hS ((if_pos c_1).trans rfl) dX1_at_32
  · refine lv_iload_n hx hb dX1_at_4 rfl (lv_at hl 1 rfl) ?_
    refine lv_aload_n hx hb dX1_at_5 rfl (lv_at hl 0 rfl) ?_
    refine gt1_1 C hP in_X1_at_1 ln_X1_at_1 (v := (u.1 1)) rfl dX1_at_6 ?_
    refine lv_icmp_ge (tgt := 30) hx hb dX1_at_9 (by decide) (fun c_2 => ?_) (fun c_2 => ?_)
    · refine lv_bipush (v := (-4)) hx hb dX1_at_30 (by decide) ?_
      exact rt_p C hr hlk hS ((if_neg c_1).trans ((if_pos c_2).trans rfl)) dX1_at_32
    · refine lv_iload_n hx hb dX1_at_12 rfl (lv_at hl 1 rfl) ?_
      refine lv_aload_n hx hb dX1_at_13 rfl (lv_at hl 0 rfl) ?_
      refine gt1_0 C hP in_X1_at_1 ln_X1_at_2 dX1_at_14 ?_
      refine ln1_0 C hP dX1_at_17 ?_
      refine lv_icmp_ge (tgt := 30) hx hb dX1_at_18 (by decide) (fun c_3 => ?_) (fun c_3 => ?_)
      · refine lv_bipush (v := (-4)) hx hb dX1_at_30 (by decide) ?_
        exact rt_p C hr hlk hS ((if_neg c_1).trans ((if_neg c_2).trans ((if_pos c_3).trans rfl))) dX1_at_32
      · refine lv_aload_n hx hb dX1_at_21 rfl (lv_at hl 0 rfl) ?_
        refine gt1_0 C hP in_X1_at_1 ln_X1_at_2 dX1_at_22 ?_
        refine lv_iload_n hx hb dX1_at_25 rfl (lv_at hl 1 rfl) ?_
        refine al1_0 C hP (ix_c (nlt_k c_1 z_t) (nle_k c_3 (oN_t hN))) (v := (u.2 0 (Int32.toNatClampNeg x1))) rfl dX1_at_26 ?_
        refine lv_goto (tgt := 32) hx hb dX1_at_27 (by decide) ?_
        exact rt_p C hr hlk hS ((if_neg c_1).trans ((if_neg c_2).trans ((if_neg c_3).trans rfl))) dX1_at_32
theorem ln_X1_startsWith_1 : Cond.fieldLink RX1 21 "BlockCard$Letters" "length" "I" ∈ wsX1_startsWith := List.mem_of_getElem? (i := 1) rfl
theorem in_X1_startsWith_1 : ∀ w ∈ wsX10, w ∈ wsX1_startsWith := fun w h => List.mem_cons_of_mem _ (List.mem_append_right _ h)
set_option maxHeartbeats 4000000 in
set_option maxRecDepth 100000 in
theorem lp_X1_startsWith_15 {p : Program} {l : Launch} {e : Env} {s : State} {m : MethodId} {args : Array Value} {below : List Frame} {meth : Method} {c : Code} {D : va_G} {A : Nat → Prop} {cI cZ : ClassId} {N h h1 M g g1 : Nat} {u v : ob_S} {F : Int32} (C : cx_C p c cX1_startsWith 3 s m args wsX1_startsWith RX1 D (ct_T cI cZ) A) (hr : meth.sig.returnType = some .boolean) (hlk : meth.locks = false) (hD : va_D (fun _ => True) (w_b cI N h h1 M g g1 u v)) (hN : N < 2147483648) (hM : M < 2147483648) (hv : (v.1 1).toInt ≤ 200) : ∀ (n : Nat) (x2 : Int32) (H : Heap) (locs : List Loc) (ls : Array Slot), 200 - x2.toInt < (n : Int) → 0 ≤ x2.toInt ∧ x2.toInt ≤ 200 → F = k_X1_startsWith_15 N M u v n x2 → va_P D vwCl (w_b cI N h h1 M g g1 u v) H → va_S A s.heap H locs → lv_has ls 3 [(0, .ref h), (1, .ref g), (2, .int x2)] → W p l e ({ frames := 1, cells := 0, slots := 0, locals := 21 } : Room) s m args below meth c H locs 0 0 (MQ below (ct_Qp D (ct_T cI cZ) F A) args s 0 0 A) (F0 m 15 ls []) := by
  have hx := C.1
  have hb := C.2.1
  intro n
  induction n with
  | zero =>
    intro x2 H locs ls i0 i1
    exact absurd i0 (by omega)
  | succ n ih =>
    intro x2 H locs ls i0 i1 hF hP hS hl
    refine lv_iload_n hx hb dX1_startsWith_15 rfl (lv_at hl 2 rfl) ?_
    refine lv_aload_n hx hb dX1_startsWith_16 rfl (lv_at hl 1 rfl) ?_
    refine gtb_v C hP in_X1_startsWith_1 ln_X1_startsWith_1 (x := (v.1 1)) rfl dX1_startsWith_17 ?_
    refine lv_icmp_ge (tgt := 44) hx hb dX1_startsWith_20 (by decide) (fun c_2 => ?_) (fun c_2 => ?_)
    · refine lv_iconst (v := 1) hx hb dX1_startsWith_44 (by decide) ?_
      exact rt_q C hr hlk (Or.inr rfl) hS (hF.trans ((if_pos c_2).trans rfl)) dX1_startsWith_45
    · refine lv_aload_n hx hb dX1_startsWith_23 rfl (lv_at hl 0 rfl) ?_
      refine lv_iload_n hx hb dX1_startsWith_24 rfl (lv_at hl 2 rfl) ?_
      refine kv_p C (c_X1_at l D cI cZ N h h1 u x2 hN) (cwV 1 C.2.2.2.2.1 gX1_startsWith_X1_at rfl rfl rfl hdX1_at ⟨Nat.le_of_ble_eq_true rfl, Nat.le_of_ble_eq_true rfl⟩) (ci := 1) (q0 := 0) rfl rfl rfl hP hD hS (su_b_1 cI N h h1 M g g1 u v) rfl hl.1 rfl (Nat.le_of_ble_eq_true rfl) dX1_startsWith_25 ⟨Nat.zero_le _, Nat.zero_le _⟩ (fun H locs hP hS => ?_)
      refine lv_aload_n hx hb dX1_startsWith_28 rfl (lv_at hl 1 rfl) ?_
      refine lv_iload_n hx hb dX1_startsWith_29 rfl (lv_at hl 2 rfl) ?_
      refine kv_p C (c_X1_at l D cI cZ M g g1 v x2 hM) (cwV 1 C.2.2.2.2.1 gX1_startsWith_X1_at rfl rfl rfl hdX1_at ⟨Nat.le_of_ble_eq_true rfl, Nat.le_of_ble_eq_true rfl⟩) (ci := 1) (q0 := 0) rfl rfl rfl hP hD hS (su_b_2 cI N h h1 M g g1 u v) rfl hl.1 rfl (Nat.le_of_ble_eq_true rfl) dX1_startsWith_30 ⟨Nat.zero_le _, Nat.zero_le _⟩ (fun H locs hP hS => ?_)
      refine lv_icmp_eq (tgt := 38) hx hb dX1_startsWith_33 (by decide) (fun c_3 => ?_) (fun c_3 => ?_)
      · refine lv_iinc (v := (x2 + 1)) (lv' := [(2, .int _), (0, .ref _), (1, .ref _)]) hx hb dX1_startsWith_38 hl (k := 2) rfl rfl (by decide) rfl (fun ls hl => ?_)
        refine lv_goto (tgt := 15) hx hb dX1_startsWith_41 (by decide) ?_
        exact ih (x2 + 1)   _ _ _ (by have h := nle_t c_2; have h2 := inc_b (n := 200) (x := x2) (by omega) (by decide); omega) (by have h := nle_t c_2; have h2 := inc_b (n := 200) (x := x2) (by omega) (by decide); omega) (hF.trans ((if_neg c_2).trans ((if_pos c_3).trans rfl))) hP hS (lv_sub hl [1, 2, 0] rfl)
      · refine lv_iconst (v := 0) hx hb dX1_startsWith_36 (by decide) ?_
        exact rt_q C hr hlk (Or.inl rfl) hS (hF.trans ((if_neg c_2).trans ((if_neg c_3).trans rfl))) dX1_startsWith_37
set_option maxHeartbeats 4000000 in
set_option maxRecDepth 100000 in
theorem c_X1_startsWith (l : Launch) (D : va_G) (cI cZ : ClassId) (N h h1 M g g1 : Nat) (u v : ob_S) (hN : N < 2147483648) (hM : M < 2147483648) (hv : (v.1 1).toInt ≤ 200) : Ct_p l yX1_startsWith wsX1_startsWith ({ frames := 1, cells := 0, slots := 0, locals := 21 } : Room) D (ct_T cI cZ) [.ref h, .ref g] (w_b cI N h h1 M g g1 u v) (f_X1_startsWith N M u v) := by
  refine en_p (cc := cX1_startsWith) (maxL := 3) (ret := (some .boolean)) (own := RX1) (by decide +kernel) rfl rfl (Nat.le_of_ble_eq_true rfl) ?_
  intro p e s m args below meth c A ls C hr hlk hP hD hS hl
  have hx := C.1
  have hb := C.2.1
  have hl : lv_has ls 3 [(0, .ref h), (1, .ref g)] := hl
  refine lv_aload_n hx hb dX1_startsWith_0 rfl (lv_at hl 1 rfl) ?_
  refine gtb_v C hP in_X1_startsWith_1 ln_X1_startsWith_1 (x := (v.1 1)) rfl dX1_startsWith_1 ?_
  refine lv_aload_n hx hb dX1_startsWith_4 rfl (lv_at hl 0 rfl) ?_
  refine gtb_1 C hP in_X1_startsWith_1 ln_X1_startsWith_1 (x := (u.1 1)) rfl dX1_startsWith_5 ?_
  refine lv_icmp_le (tgt := 13) hx hb dX1_startsWith_8 (by decide) (fun c_1 => ?_) (fun c_1 => ?_)
  · refine lv_iconst (v := 0) hx hb dX1_startsWith_13 (by decide) ?_
    refine lv_istore_n (lv' := [(2, .int _), (0, .ref _), (1, .ref _)]) hx hb dX1_startsWith_14 rfl hl (by decide) rfl (fun ls hl => ?_)
    exact lp_X1_startsWith_15 C hr hlk hD hN hM hv 201 0 _ _ _ (by decide) (by decide) ((if_pos c_1).trans rfl) hP hS (lv_sub hl [1, 2, 0] rfl)
  · refine lv_iconst (v := 0) hx hb dX1_startsWith_11 (by decide) ?_
    exact rt_q C hr hlk (Or.inl rfl) hS ((if_neg c_1).trans rfl) dX1_startsWith_12
theorem ln_X1_becomeTail_1 : Cond.fieldLink RX1 21 "BlockCard$Letters" "length" "I" ∈ wsX1_becomeTail := List.mem_of_getElem? (i := 1) rfl
theorem in_X1_becomeTail_1 : ∀ w ∈ wsX10, w ∈ wsX1_becomeTail := fun w h => List.mem_cons_of_mem _ (List.mem_append_right _ h)
set_option maxHeartbeats 4000000 in
set_option maxRecDepth 100000 in
theorem lp_X1_becomeTail_6 {p : Program} {l : Launch} {e : Env} {s : State} {m : MethodId} {args : Array Value} {below : List Frame} {meth : Method} {c : Code} {D : va_G} {A : Nat → Prop} {cI cZ : ClassId} {N h h1 M g g1 : Nat} {v : ob_S} {F : ob_S} (C : cx_C p c cX1_becomeTail 4 s m args wsX1_becomeTail RX1 D (ct_T cI cZ) A) (hr : meth.sig.returnType = none) (hlk : meth.locks = false) (hN : N < 2147483648) (hM : M < 2147483648) (hv : (v.1 1).toInt ≤ 200) : ∀ (n : Nat) (x3 : Int32) (u : ob_S) (H : Heap) (locs : List Loc) (ls : Array Slot), 200 - x3.toInt < (n : Int) ∧ 0 < n → 0 ≤ x3.toInt → F = k_X1_becomeTail_6 N M v n x3 u → va_P D vwCl (w_b cI N h h1 M g g1 u v) H → va_D A (w_b cI N h h1 M g g1 u v) → va_S A s.heap H locs → lv_has ls 4 [(0, .ref h), (1, .ref g), (3, .int x3)] → W p l e ({ frames := 1, cells := 0, slots := 0, locals := 21 } : Room) s m args below meth c H locs 0 0 (MQ below (ct_Qv D (ct_T cI cZ) (fun u => (w_b cI N h h1 M g g1 u v)) F A) args s 0 0 A) (F0 m 6 ls []) := by
  have hx := C.1
  have hb := C.2.1
  intro n
  induction n with
  | zero =>
    intro x3 u H locs ls i0 i1
    exact absurd i0.2 (Nat.lt_irrefl 0)
  | succ n ih =>
    intro x3 u H locs ls i0 i1 hF hP hD hS hl
    refine lv_iload_n hx hb dX1_becomeTail_6 rfl (lv_at hl 2 rfl) ?_
    refine lv_aload_n hx hb dX1_becomeTail_7 rfl (lv_at hl 1 rfl) ?_
    refine gtb_v C hP in_X1_becomeTail_1 ln_X1_becomeTail_1 (x := (v.1 1)) rfl dX1_becomeTail_8 ?_
    refine lv_icmp_ge (tgt := 30) hx hb dX1_becomeTail_11 (by decide) (fun c_2 => ?_) (fun c_2 => ?_)
    · exact rt_v C hr hlk hP hD hS (hF.trans ((if_pos c_2).trans rfl)) dX1_becomeTail_30
    · refine lv_aload_n hx hb dX1_becomeTail_14 rfl (lv_at hl 0 rfl) ?_
      refine lv_aload_n hx hb dX1_becomeTail_15 rfl (lv_at hl 1 rfl) ?_
      refine lv_iload_n hx hb dX1_becomeTail_16 rfl (lv_at hl 2 rfl) ?_
      refine kv_p C (c_X1_at l D cI cZ M g g1 v x3 hM) (cwV 1 C.2.2.2.2.1 gX1_becomeTail_X1_at rfl rfl rfl hdX1_at ⟨Nat.le_of_ble_eq_true rfl, Nat.le_of_ble_eq_true rfl⟩) (ci := 1) (q0 := 0) rfl rfl rfl hP hD hS (su_b_2 cI N h h1 M g g1 u v) rfl hl.1 rfl (Nat.le_of_ble_eq_true rfl) dX1_becomeTail_17 ⟨Nat.zero_le _, Nat.zero_le _⟩ (fun H locs hP hS => ?_)
      refine kv_i C (c_X1_append l D cI cZ N h h1 u (f_X1_at M v x3) hN) (cwV 1 C.2.2.2.2.1 gX1_becomeTail_X1_append rfl rfl rfl hdX1_append ⟨Nat.le_of_ble_eq_true rfl, Nat.le_of_ble_eq_true rfl⟩) (ci := 1) (q0 := 0) rfl rfl rfl hP hD hS (sp_b_1 cI N h h1 M g g1 u v) rfl hl.1 rfl (Nat.le_of_ble_eq_true rfl) dX1_becomeTail_20 ⟨Nat.zero_le _, Nat.zero_le _⟩ (fun H locs hP hD hS => ?_)
      refine lv_pop hx hb dX1_becomeTail_23 rfl ?_
      refine lv_iinc (v := (x3 + 1)) (lv' := [(3, .int _), (0, .ref _), (1, .ref _)]) hx hb dX1_becomeTail_24 hl (k := 2) rfl rfl (by decide) rfl (fun ls hl => ?_)
      refine lv_goto (tgt := 6) hx hb dX1_becomeTail_27 (by decide) ?_
      exact ih (x3 + 1) (f_X1_append N u (f_X1_at M v x3)).2  _ _ _ (by have h := nle_t c_2; have h2 := inc_b (n := 200) (x := x3) (by omega) (by decide); omega) (by have h := nle_t c_2; have h2 := inc_b (n := 200) (x := x3) (by omega) (by decide); omega) (hF.trans ((if_neg c_2).trans rfl)) hP hD hS (lv_sub hl [1, 2, 0] rfl)
set_option maxHeartbeats 4000000 in
set_option maxRecDepth 100000 in
theorem c_X1_becomeTail (l : Launch) (D : va_G) (cI cZ : ClassId) (N h h1 M g g1 : Nat) (u v : ob_S) (x2 : Int32) (hN : N < 2147483648) (hM : M < 2147483648) (hv : (v.1 1).toInt ≤ 200) (hs : 0 ≤ x2.toInt) : Ct_v l yX1_becomeTail wsX1_becomeTail ({ frames := 1, cells := 0, slots := 0, locals := 21 } : Room) D (ct_T cI cZ) [.ref h, .ref g, .int x2] (w_b cI N h h1 M g g1 u v) (fun u => (w_b cI N h h1 M g g1 u v)) (f_X1_becomeTail N M u v x2) := by
  refine en_v (cc := cX1_becomeTail) (maxL := 4) (ret := none) (own := RX1) (by decide +kernel) rfl rfl (Nat.le_of_ble_eq_true rfl) ?_
  intro p e s m args below meth c A ls C hr hlk hP hD hS hl
  have hx := C.1
  have hb := C.2.1
  have hl : lv_has ls 4 [(0, .ref h), (1, .ref g), (2, .int x2)] := hl
  refine lv_aload_n hx hb dX1_becomeTail_0 rfl (lv_at hl 0 rfl) ?_
  refine kv_v C (c_X1_empty l D cI cZ N h h1 u  ) (cwV 0 C.2.2.2.2.1 gX1_becomeTail_X1_empty rfl rfl rfl hdX1_empty ⟨Nat.le_of_ble_eq_true rfl, Nat.le_of_ble_eq_true rfl⟩) (ci := 1) (q0 := 0) rfl rfl rfl hP hD hS (sp_b_1 cI N h h1 M g g1 u v) rfl hl.1 rfl (Nat.le_of_ble_eq_true rfl) dX1_becomeTail_1 ⟨Nat.zero_le _, Nat.zero_le _⟩ (fun H locs hP hD hS => ?_)
  refine lv_iload_n hx hb dX1_becomeTail_4 rfl (lv_at hl 2 rfl) ?_
  refine lv_istore_n (lv' := [(3, .int _), (0, .ref _), (1, .ref _), (2, .int _)]) hx hb dX1_becomeTail_5 rfl hl (by decide) rfl (fun ls hl => ?_)
  exact lp_X1_becomeTail_6 C hr hlk  hN hM hv 201 x2 (f_X1_empty N u) _ _ _ ⟨by omega, by decide⟩ hs rfl hP hD hS (lv_sub hl [1, 2, 0] rfl)
theorem ln_X5_isWrong_1 : Cond.fieldLink RX5 23 "BlockCard$Stream" "wrong" "Z" ∈ wsX5_isWrong := List.mem_of_getElem? (i := 1) rfl
theorem in_X5_isWrong_5 : ∀ w ∈ wsX50, w ∈ wsX5_isWrong := fun w h => List.mem_cons_of_mem _ (List.mem_append_right _ h)
set_option maxHeartbeats 4000000 in
set_option maxRecDepth 100000 in
theorem c_X5_isWrong (l : Launch) (D : va_G) (cI cZ : ClassId) (h : Nat) (u : ob_S) (hz4 : u.1 4 = 0 ∨ u.1 4 = 1) : Ct_p l yX5_isWrong wsX5_isWrong ({ frames := 0, cells := 0, slots := 0, locals := 0 } : Room) D (ct_T cI cZ) [.ref h] (w_5 h u) (f_X5_isWrong u) := by
  refine en_p (cc := cX5_isWrong) (maxL := 1) (ret := (some .boolean)) (own := RX5) (by decide +kernel) rfl rfl (Nat.le_of_ble_eq_true rfl) ?_
  intro p e s m args below meth c A ls C hr hlk hP hD hS hl
  have hx := C.1
  have hb := C.2.1
  have hl : lv_has ls 1 [(0, .ref h)] := hl
  refine lv_aload_n hx hb dX5_isWrong_0 rfl (lv_at hl 0 rfl) ?_
  refine gt5_4 C hP in_X5_isWrong_5 ln_X5_isWrong_1 (v := (u.1 4)) rfl dX5_isWrong_1 ?_
  exact rt_q C hr hlk hz4 hS rfl dX5_isWrong_4
theorem ln_X5_isComplete_1 : Cond.fieldLink RX5 19 "BlockCard$Stream" "counted" "Z" ∈ wsX5_isComplete := List.mem_of_getElem? (i := 1) rfl
theorem in_X5_isComplete_5 : ∀ w ∈ wsX50, w ∈ wsX5_isComplete := fun w h => List.mem_cons_of_mem _ (List.mem_append_right _ h)
theorem ln_X5_isComplete_2 : Cond.fieldLink RX5 16 "BlockCard$Stream" "left" "I" ∈ wsX5_isComplete := List.mem_of_getElem? (i := 2) rfl
set_option maxHeartbeats 4000000 in
set_option maxRecDepth 100000 in
theorem c_X5_isComplete (l : Launch) (D : va_G) (cI cZ : ClassId) (h : Nat) (u : ob_S)  : Ct_p l yX5_isComplete wsX5_isComplete ({ frames := 0, cells := 0, slots := 0, locals := 0 } : Room) D (ct_T cI cZ) [.ref h] (w_5 h u) (f_X5_isComplete u) := by
  refine en_p (cc := cX5_isComplete) (maxL := 1) (ret := (some .boolean)) (own := RX5) (by decide +kernel) rfl rfl (Nat.le_of_ble_eq_true rfl) ?_
  intro p e s m args below meth c A ls C hr hlk hP hD hS hl
  have hx := C.1
  have hb := C.2.1
  have hl : lv_has ls 1 [(0, .ref h)] := hl
  refine lv_aload_n hx hb dX5_isComplete_0 rfl (lv_at hl 0 rfl) ?_
  refine gt5_3 C hP in_X5_isComplete_5 ln_X5_isComplete_1 (v := (u.1 3)) rfl dX5_isComplete_1 ?_
  refine lv_if_eq (tgt := 18) hx hb dX5_isComplete_4 (by decide) (fun c_1 => ?_) (fun c_1 => ?_)
  · refine lv_iconst (v := 0) hx hb dX5_isComplete_18 (by decide) ?_
    exact rt_q C hr hlk (Or.inl rfl) hS ((if_pos c_1).trans rfl) dX5_isComplete_19
  · refine lv_aload_n hx hb dX5_isComplete_7 rfl (lv_at hl 0 rfl) ?_
    refine gt5_2 C hP in_X5_isComplete_5 ln_X5_isComplete_2 (v := (u.1 2)) rfl dX5_isComplete_8 ?_
    refine lv_if_gt (tgt := 18) hx hb dX5_isComplete_11 (by decide) (fun c_2 => ?_) (fun c_2 => ?_)
    · refine lv_iconst (v := 0) hx hb dX5_isComplete_18 (by decide) ?_
      exact rt_q C hr hlk (Or.inl rfl) hS ((if_neg c_1).trans ((if_pos c_2).trans rfl)) dX5_isComplete_19
    · refine lv_iconst (v := 1) hx hb dX5_isComplete_14 (by decide) ?_
      refine lv_goto (tgt := 19) hx hb dX5_isComplete_15 (by decide) ?_
      exact rt_q C hr hlk (Or.inr rfl) hS ((if_neg c_1).trans ((if_neg c_2).trans rfl)) dX5_isComplete_19
theorem ln_X5_next_1 : Cond.fieldLink RX5 13 "BlockCard$Stream" "next" "I" ∈ wsX5_next := List.mem_of_getElem? (i := 1) rfl
theorem in_X5_next_5 : ∀ w ∈ wsX50, w ∈ wsX5_next := fun w h => List.mem_cons_of_mem _ (List.mem_append_right _ h)
set_option maxHeartbeats 4000000 in
set_option maxRecDepth 100000 in
theorem c_X5_next (l : Launch) (D : va_G) (cI cZ : ClassId) (h : Nat) (u : ob_S)  : Ct_p l yX5_next wsX5_next ({ frames := 0, cells := 0, slots := 0, locals := 0 } : Room) D (ct_T cI cZ) [.ref h] (w_5 h u) (f_X5_next u) := by
  refine en_p (cc := cX5_next) (maxL := 1) (ret := (some .int)) (own := RX5) (by decide +kernel) rfl rfl (Nat.le_of_ble_eq_true rfl) ?_
  intro p e s m args below meth c A ls C hr hlk hP hD hS hl
  have hx := C.1
  have hb := C.2.1
  have hl : lv_has ls 1 [(0, .ref h)] := hl
  refine lv_aload_n hx hb dX5_next_0 rfl (lv_at hl 0 rfl) ?_
  refine gt5_1 C hP in_X5_next_5 ln_X5_next_1 (v := (u.1 1)) rfl dX5_next_1 ?_
  exact rt_p C hr hlk hS rfl dX5_next_4
theorem ln_X4_isFull_1 : Cond.fieldLink RX4 18 "BlockCard$Queue" "size" "I" ∈ wsX4_isFull := List.mem_of_getElem? (i := 1) rfl
theorem in_X4_isFull_4 : ∀ w ∈ wsX40, w ∈ wsX4_isFull := fun w h => List.mem_cons_of_mem _ (List.mem_append_right _ h)
set_option maxHeartbeats 4000000 in
set_option maxRecDepth 100000 in
theorem c_X4_isFull (l : Launch) (D : va_G) (cI cZ : ClassId) (h h1 h2 : Nat) (u : ob_S)  : Ct_p l yX4_isFull wsX4_isFull ({ frames := 0, cells := 0, slots := 0, locals := 0 } : Room) D (ct_T cI cZ) [.ref h] (w_4 cI h h1 h2 u) (f_X4_isFull u) := by
  refine en_p (cc := cX4_isFull) (maxL := 1) (ret := (some .boolean)) (own := RX4) (by decide +kernel) rfl rfl (Nat.le_of_ble_eq_true rfl) ?_
  intro p e s m args below meth c A ls C hr hlk hP hD hS hl
  have hx := C.1
  have hb := C.2.1
  have hl : lv_has ls 1 [(0, .ref h)] := hl
  refine lv_aload_n hx hb dX4_isFull_0 rfl (lv_at hl 0 rfl) ?_
  refine gt4_2 C hP in_X4_isFull_4 ln_X4_isFull_1 (v := (u.1 2)) rfl dX4_isFull_1 ?_
  refine lv_iconst (v := 2) hx hb dX4_isFull_4 (by decide) ?_
  refine lv_icmp_lt (tgt := 12) hx hb dX4_isFull_5 (by decide) (fun c_1 => ?_) (fun c_1 => ?_)
  · refine lv_iconst (v := 0) hx hb dX4_isFull_12 (by decide) ?_
    exact rt_q C hr hlk (Or.inl rfl) hS ((if_pos c_1).trans rfl) dX4_isFull_13
  · refine lv_iconst (v := 1) hx hb dX4_isFull_8 (by decide) ?_
    refine lv_goto (tgt := 13) hx hb dX4_isFull_9 (by decide) ?_
    exact rt_q C hr hlk (Or.inr rfl) hS ((if_neg c_1).trans rfl) dX4_isFull_13
theorem ln_X5_spoil_1 : Cond.fieldLink RX5 23 "BlockCard$Stream" "wrong" "Z" ∈ wsX5_spoil := List.mem_of_getElem? (i := 1) rfl
theorem in_X5_spoil_5 : ∀ w ∈ wsX50, w ∈ wsX5_spoil := fun w h => List.mem_cons_of_mem _ (List.mem_append_right _ h)
set_option maxHeartbeats 4000000 in
set_option maxRecDepth 100000 in
theorem c_X5_spoil (l : Launch) (D : va_G) (cI cZ : ClassId) (h : Nat) (u : ob_S)  : Ct_v l yX5_spoil wsX5_spoil ({ frames := 0, cells := 0, slots := 0, locals := 0 } : Room) D (ct_T cI cZ) [.ref h] (w_5 h u) (fun u => (w_5 h u)) (f_X5_spoil u) := by
  refine en_v (cc := cX5_spoil) (maxL := 1) (ret := none) (own := RX5) (by decide +kernel) rfl rfl (Nat.le_of_ble_eq_true rfl) ?_
  intro p e s m args below meth c A ls C hr hlk hP hD hS hl
  have hx := C.1
  have hb := C.2.1
  have hl : lv_has ls 1 [(0, .ref h)] := hl
  refine lv_aload_n hx hb dX5_spoil_0 rfl (lv_at hl 0 rfl) ?_
  refine lv_iconst (v := 1) hx hb dX5_spoil_1 (by decide) ?_
  refine pt5_4 C hP hD hS in_X5_spoil_5 ln_X5_spoil_1 (Or.inr rfl) dX5_spoil_2 (fun H locs hP hD hS => ?_)
  exact rt_v C hr hlk hP hD hS rfl dX5_spoil_5
theorem ln_X4_append_1 : Cond.fieldLink RX4 18 "BlockCard$Queue" "size" "I" ∈ wsX4_append := List.mem_of_getElem? (i := 1) rfl
theorem in_X4_append_4 : ∀ w ∈ wsX40, w ∈ wsX4_append := fun w h => List.mem_cons_of_mem _ (List.mem_append_right _ h)
theorem ln_X4_append_2 : Cond.fieldLink RX4 9 "BlockCard$Queue" "places" "[I" ∈ wsX4_append := List.mem_of_getElem? (i := 2) rfl
theorem ln_X4_append_3 : Cond.fieldLink RX4 15 "BlockCard$Queue" "contents" "[I" ∈ wsX4_append := List.mem_of_getElem? (i := 3) rfl
set_option maxHeartbeats 4000000 in
set_option maxRecDepth 100000 in
theorem c_X4_append (l : Launch) (D : va_G) (cI cZ : ClassId) (h h1 h2 : Nat) (u : ob_S) (x1 : Int32) (x2 : Int32)  : Ct_v l yX4_append wsX4_append ({ frames := 0, cells := 0, slots := 0, locals := 0 } : Room) D (ct_T cI cZ) [.ref h, .int x1, .int x2] (w_4 cI h h1 h2 u) (fun u => (w_4 cI h h1 h2 u)) (f_X4_append u x1 x2) := by
  refine en_v (cc := cX4_append) (maxL := 3) (ret := none) (own := RX4) (by decide +kernel) rfl rfl (Nat.le_of_ble_eq_true rfl) ?_
  intro p e s m args below meth c A ls C hr hlk hP hD hS hl
  have hx := C.1
  have hb := C.2.1
  have hl : lv_has ls 3 [(0, .ref h), (1, .int x1), (2, .int x2)] := hl
  refine lv_aload_n hx hb dX4_append_0 rfl (lv_at hl 0 rfl) ?_
  refine gt4_2 C hP in_X4_append_4 ln_X4_append_1 (v := (u.1 2)) rfl dX4_append_1 ?_
  refine lv_if_lt (tgt := 15) hx hb dX4_append_4 (by decide) (fun c_1 => ?_) (fun c_1 => ?_)
  · exact rt_v C hr hlk hP hD hS ((if_pos c_1).trans rfl) dX4_append_15
  · refine lv_aload_n hx hb dX4_append_7 rfl (lv_at hl 0 rfl) ?_
    refine gt4_2 C hP in_X4_append_4 ln_X4_append_1 (v := (u.1 2)) rfl dX4_append_8 ?_
    refine lv_iconst (v := 2) hx hb dX4_append_11 (by decide) ?_
    refine lv_icmp_lt (tgt := 16) hx hb dX4_append_12 (by decide) (fun c_2 => ?_) (fun c_2 => ?_)
    · refine lv_aload_n hx hb dX4_append_16 rfl (lv_at hl 0 rfl) ?_
      refine gt4_0 C hP in_X4_append_4 ln_X4_append_2 dX4_append_17 ?_
      refine lv_aload_n hx hb dX4_append_20 rfl (lv_at hl 0 rfl) ?_
      refine gt4_2 C hP in_X4_append_4 ln_X4_append_1 (v := (u.1 2)) rfl dX4_append_21 ?_
      refine lv_iload_n hx hb dX4_append_24 rfl (lv_at hl 1 rfl) ?_
      refine as4_0 C hP hD hS (ix_c (nlt_k c_1 z_t) (lt_k c_2 (by decide))) dX4_append_25 (fun H locs hP hD hS => ?_)
      refine lv_aload_n hx hb dX4_append_26 rfl (lv_at hl 0 rfl) ?_
      refine gt4_1 C hP in_X4_append_4 ln_X4_append_3 dX4_append_27 ?_
      refine lv_aload_n hx hb dX4_append_30 rfl (lv_at hl 0 rfl) ?_
      refine gt4_2 C hP in_X4_append_4 ln_X4_append_1 (v := (u.1 2)) rfl dX4_append_31 ?_
      refine lv_iload_n hx hb dX4_append_34 rfl (lv_at hl 2 rfl) ?_
      refine as4_1 C hP hD hS (ix_c (n := 2) (i := u.1 2) (nlt_k c_1 z_t) (lt_k c_2 (by decide))) dX4_append_35 (fun H locs hP hD hS => ?_)
      refine lv_aload_n hx hb dX4_append_36 rfl (lv_at hl 0 rfl) ?_
      refine lv_dup hx hb dX4_append_37 rfl ?_
      refine gt4_2 C hP in_X4_append_4 ln_X4_append_1 (v := (u.1 2)) rfl dX4_append_38 ?_
      refine lv_iconst (v := 1) hx hb dX4_append_41 (by decide) ?_
      refine lv_iadd hx hb dX4_append_42 ?_
      refine pt4_2 C hP hD hS in_X4_append_4 ln_X4_append_1 dX4_append_43 (fun H locs hP hD hS => ?_)
      exact rt_v C hr hlk hP hD hS ((if_neg c_1).trans ((if_pos c_2).trans rfl)) dX4_append_46
    · exact rt_v C hr hlk hP hD hS ((if_neg c_1).trans ((if_neg c_2).trans rfl)) dX4_append_15
theorem ln_X5_advance_1 : Cond.fieldLink RX5 13 "BlockCard$Stream" "next" "I" ∈ wsX5_advance := List.mem_of_getElem? (i := 1) rfl
theorem in_X5_advance_5 : ∀ w ∈ wsX50, w ∈ wsX5_advance := fun w h => List.mem_cons_of_mem _ (List.mem_append_right _ h)
theorem ln_X5_advance_2 : Cond.fieldLink RX5 16 "BlockCard$Stream" "left" "I" ∈ wsX5_advance := List.mem_of_getElem? (i := 2) rfl
set_option maxHeartbeats 4000000 in
set_option maxRecDepth 100000 in
theorem c_X5_advance (l : Launch) (D : va_G) (cI cZ : ClassId) (h : Nat) (u : ob_S)  : Ct_v l yX5_advance wsX5_advance ({ frames := 0, cells := 0, slots := 0, locals := 0 } : Room) D (ct_T cI cZ) [.ref h] (w_5 h u) (fun u => (w_5 h u)) (f_X5_advance u) := by
  refine en_v (cc := cX5_advance) (maxL := 1) (ret := none) (own := RX5) (by decide +kernel) rfl rfl (Nat.le_of_ble_eq_true rfl) ?_
  intro p e s m args below meth c A ls C hr hlk hP hD hS hl
  have hx := C.1
  have hb := C.2.1
  have hl : lv_has ls 1 [(0, .ref h)] := hl
  refine lv_aload_n hx hb dX5_advance_0 rfl (lv_at hl 0 rfl) ?_
  refine lv_dup hx hb dX5_advance_1 rfl ?_
  refine gt5_1 C hP in_X5_advance_5 ln_X5_advance_1 (v := (u.1 1)) rfl dX5_advance_2 ?_
  refine lv_iconst (v := 1) hx hb dX5_advance_5 (by decide) ?_
  refine lv_iadd hx hb dX5_advance_6 ?_
  refine pt5_1 C hP hD hS in_X5_advance_5 ln_X5_advance_1 dX5_advance_7 (fun H locs hP hD hS => ?_)
  refine lv_aload_n hx hb dX5_advance_10 rfl (lv_at hl 0 rfl) ?_
  refine lv_dup hx hb dX5_advance_11 rfl ?_
  refine gt5_2 C hP in_X5_advance_5 ln_X5_advance_2 (v := (u.1 2)) rfl dX5_advance_12 ?_
  refine lv_iconst (v := 1) hx hb dX5_advance_15 (by decide) ?_
  refine lv_isub hx hb dX5_advance_16 ?_
  refine pt5_2 C hP hD hS in_X5_advance_5 ln_X5_advance_2 dX5_advance_17 (fun H locs hP hD hS => ?_)
  exact rt_v C hr hlk hP hD hS rfl dX5_advance_20
theorem ln_X4_tickFirst_1 : Cond.fieldLink RX4 22 "BlockCard$Queue" "ticksOfFirst" "I" ∈ wsX4_tickFirst := List.mem_of_getElem? (i := 1) rfl
theorem in_X4_tickFirst_4 : ∀ w ∈ wsX40, w ∈ wsX4_tickFirst := fun w h => List.mem_cons_of_mem _ (List.mem_append_right _ h)
set_option maxHeartbeats 4000000 in
set_option maxRecDepth 100000 in
theorem c_X4_tickFirst (l : Launch) (D : va_G) (cI cZ : ClassId) (h h1 h2 : Nat) (u : ob_S)  : Ct_v l yX4_tickFirst wsX4_tickFirst ({ frames := 0, cells := 0, slots := 0, locals := 0 } : Room) D (ct_T cI cZ) [.ref h] (w_4 cI h h1 h2 u) (fun u => (w_4 cI h h1 h2 u)) (f_X4_tickFirst u) := by
  refine en_v (cc := cX4_tickFirst) (maxL := 1) (ret := none) (own := RX4) (by decide +kernel) rfl rfl (Nat.le_of_ble_eq_true rfl) ?_
  intro p e s m args below meth c A ls C hr hlk hP hD hS hl
  have hx := C.1
  have hb := C.2.1
  have hl : lv_has ls 1 [(0, .ref h)] := hl
  refine lv_aload_n hx hb dX4_tickFirst_0 rfl (lv_at hl 0 rfl) ?_
  refine lv_dup hx hb dX4_tickFirst_1 rfl ?_
  refine gt4_3 C hP in_X4_tickFirst_4 ln_X4_tickFirst_1 (v := (u.1 3)) rfl dX4_tickFirst_2 ?_
  refine lv_iconst (v := 1) hx hb dX4_tickFirst_5 (by decide) ?_
  refine lv_iadd hx hb dX4_tickFirst_6 ?_
  refine pt4_3 C hP hD hS in_X4_tickFirst_4 ln_X4_tickFirst_1 dX4_tickFirst_7 (fun H locs hP hD hS => ?_)
  exact rt_v C hr hlk hP hD hS rfl dX4_tickFirst_10
theorem ln_X2_ticksOfBlock_1 : Cond.fieldLink RX2 9 "BlockCard$Link" "lines" "I" ∈ wsX2_ticksOfBlock := List.mem_of_getElem? (i := 1) rfl
theorem in_X2_ticksOfBlock_2 : ∀ w ∈ wsX20, w ∈ wsX2_ticksOfBlock := fun w h => List.mem_cons_of_mem _ (List.mem_append_right _ h)
set_option maxHeartbeats 4000000 in
set_option maxRecDepth 100000 in
theorem c_X2_ticksOfBlock (l : Launch) (D : va_G) (cI cZ : ClassId) (h : Nat) (u : ob_S)  : Ct_p l yX2_ticksOfBlock wsX2_ticksOfBlock ({ frames := 0, cells := 0, slots := 0, locals := 0 } : Room) D (ct_T cI cZ) [.ref h] (w_2 h u) (f_X2_ticksOfBlock u) := by
  refine en_p (cc := cX2_ticksOfBlock) (maxL := 1) (ret := (some .int)) (own := RX2) (by decide +kernel) rfl rfl (Nat.le_of_ble_eq_true rfl) ?_
  intro p e s m args below meth c A ls C hr hlk hP hD hS hl
  have hx := C.1
  have hb := C.2.1
  have hl : lv_has ls 1 [(0, .ref h)] := hl
  refine lv_iconst (v := 4) hx hb dX2_ticksOfBlock_0 (by decide) ?_
  refine lv_aload_n hx hb dX2_ticksOfBlock_1 rfl (lv_at hl 0 rfl) ?_
  refine gt2_0 C hP in_X2_ticksOfBlock_2 ln_X2_ticksOfBlock_1 (v := (u.1 0)) rfl dX2_ticksOfBlock_2 ?_
  refine lv_ishr hx hb dX2_ticksOfBlock_5 ?_
  exact rt_p C hr hlk hS rfl dX2_ticksOfBlock_6
theorem ln_X4_dropFirst_1 : Cond.fieldLink RX4 18 "BlockCard$Queue" "size" "I" ∈ wsX4_dropFirst := List.mem_of_getElem? (i := 1) rfl
theorem in_X4_dropFirst_4 : ∀ w ∈ wsX40, w ∈ wsX4_dropFirst := fun w h => List.mem_cons_of_mem _ (List.mem_append_right _ h)
theorem ln_X4_dropFirst_4 : Cond.methodLink RX4 25 Lib.Math.max.name ∈ wsX4_dropFirst := List.mem_of_getElem? (i := 4) rfl
theorem ln_X4_dropFirst_5 : Cond.static Lib.Math.max.name ∈ wsX4_dropFirst := List.mem_of_getElem? (i := 5) rfl
theorem ln_X4_dropFirst_6 : Cond.initialized "java/lang/Math" ∈ wsX4_dropFirst := List.mem_of_getElem? (i := 6) rfl
theorem ln_X4_dropFirst_7 : Cond.code Lib.Math.max.name Lib.Math.max.code 2 (some .int) ∈ wsX4_dropFirst := List.mem_of_getElem? (i := 7) rfl
theorem ln_X4_dropFirst_8 : Cond.fieldLink RX4 22 "BlockCard$Queue" "ticksOfFirst" "I" ∈ wsX4_dropFirst := List.mem_of_getElem? (i := 8) rfl
theorem ln_X4_dropFirst_2 : Cond.fieldLink RX4 9 "BlockCard$Queue" "places" "[I" ∈ wsX4_dropFirst := List.mem_of_getElem? (i := 2) rfl
theorem ln_X4_dropFirst_3 : Cond.fieldLink RX4 15 "BlockCard$Queue" "contents" "[I" ∈ wsX4_dropFirst := List.mem_of_getElem? (i := 3) rfl
set_option maxHeartbeats 4000000 in
set_option maxRecDepth 100000 in
theorem lp_X4_dropFirst_2 {p : Program} {l : Launch} {e : Env} {s : State} {m : MethodId} {args : Array Value} {below : List Frame} {meth : Method} {c : Code} {D : va_G} {A : Nat → Prop} {cI cZ : ClassId} {h h1 h2 : Nat} {F : ob_S} (C : cx_C p c cX4_dropFirst 2 s m args wsX4_dropFirst RX4 D (ct_T cI cZ) A) (hr : meth.sig.returnType = none) (hlk : meth.locks = false)  : ∀ (n : Nat) (x1 : Int32) (u : ob_S) (H : Heap) (locs : List Loc) (ls : Array Slot), 2 - x1.toInt < (n : Int) → 1 ≤ x1.toInt ∧ x1.toInt ≤ 2 → F = k_X4_dropFirst_2  n x1 u → va_P D vwCl (w_4 cI h h1 h2 u) H → va_D A (w_4 cI h h1 h2 u) → va_S A s.heap H locs → lv_has ls 2 [(0, .ref h), (1, .int x1)] → W p l e ({ frames := 1, cells := 0, slots := 0, locals := 24 } : Room) s m args below meth c H locs 0 0 (MQ below (ct_Qv D (ct_T cI cZ) (fun u => (w_4 cI h h1 h2 u)) F A) args s 0 0 A) (F0 m 2 ls []) := by
  have hx := C.1
  have hb := C.2.1
  intro n
  induction n with
  | zero =>
    intro x1 u H locs ls i0 i1
    exact absurd i0 (by omega)
  | succ n ih =>
    intro x1 u H locs ls i0 i1 hF hP hD hS hl
    refine lv_iload_n hx hb dX4_dropFirst_2 rfl (lv_at hl 1 rfl) ?_
    refine lv_aload_n hx hb dX4_dropFirst_3 rfl (lv_at hl 0 rfl) ?_
    refine gt4_2 C hP in_X4_dropFirst_4 ln_X4_dropFirst_1 (v := (u.1 2)) rfl dX4_dropFirst_4 ?_
    refine lv_icmp_ge (tgt := 49) hx hb dX4_dropFirst_7 (by decide) (fun c_1 => ?_) (fun c_1 => ?_)
    · refine lv_aload_n hx hb dX4_dropFirst_49 rfl (lv_at hl 0 rfl) ?_
      refine lv_iconst (v := 0) hx hb dX4_dropFirst_50 (by decide) ?_
      refine lv_aload_n hx hb dX4_dropFirst_51 rfl (lv_at hl 0 rfl) ?_
      refine gt4_2 C hP in_X4_dropFirst_4 ln_X4_dropFirst_1 (v := (u.1 2)) rfl dX4_dropFirst_52 ?_
      refine lv_iconst (v := 1) hx hb dX4_dropFirst_55 (by decide) ?_
      refine lv_isub hx hb dX4_dropFirst_56 ?_
      refine va_mmax hx hb (C.2.2.1.trans hl.1.symm) C.2.2.2.1 (C.2.2.2.2.1 _ ln_X4_dropFirst_4) (C.2.2.2.2.1 _ ln_X4_dropFirst_5) (C.2.2.2.2.1 _ ln_X4_dropFirst_6) (C.2.2.2.2.1 _ ln_X4_dropFirst_7) (Nat.le_of_ble_eq_true rfl) (Nat.le_of_ble_eq_true rfl) (Nat.zero_le _) (Nat.zero_le _) dX4_dropFirst_57 ?_
      refine pt4_2 C hP hD hS in_X4_dropFirst_4 ln_X4_dropFirst_1 dX4_dropFirst_60 (fun H locs hP hD hS => ?_)
      refine lv_aload_n hx hb dX4_dropFirst_63 rfl (lv_at hl 0 rfl) ?_
      refine lv_iconst (v := 0) hx hb dX4_dropFirst_64 (by decide) ?_
      refine pt4_3 C hP hD hS in_X4_dropFirst_4 ln_X4_dropFirst_8 dX4_dropFirst_65 (fun H locs hP hD hS => ?_)
      exact rt_v C hr hlk hP hD hS (hF.trans ((if_pos c_1).trans rfl)) dX4_dropFirst_68
    · refine lv_iload_n hx hb dX4_dropFirst_10 rfl (lv_at hl 1 rfl) ?_
      refine lv_iconst (v := 2) hx hb dX4_dropFirst_11 (by decide) ?_
      refine lv_icmp_ge (tgt := 49) hx hb dX4_dropFirst_12 (by decide) (fun c_2 => ?_) (fun c_2 => ?_)
      · refine lv_aload_n hx hb dX4_dropFirst_49 rfl (lv_at hl 0 rfl) ?_
        refine lv_iconst (v := 0) hx hb dX4_dropFirst_50 (by decide) ?_
        refine lv_aload_n hx hb dX4_dropFirst_51 rfl (lv_at hl 0 rfl) ?_
        refine gt4_2 C hP in_X4_dropFirst_4 ln_X4_dropFirst_1 (v := (u.1 2)) rfl dX4_dropFirst_52 ?_
        refine lv_iconst (v := 1) hx hb dX4_dropFirst_55 (by decide) ?_
        refine lv_isub hx hb dX4_dropFirst_56 ?_
        refine va_mmax hx hb (C.2.2.1.trans hl.1.symm) C.2.2.2.1 (C.2.2.2.2.1 _ ln_X4_dropFirst_4) (C.2.2.2.2.1 _ ln_X4_dropFirst_5) (C.2.2.2.2.1 _ ln_X4_dropFirst_6) (C.2.2.2.2.1 _ ln_X4_dropFirst_7) (Nat.le_of_ble_eq_true rfl) (Nat.le_of_ble_eq_true rfl) (Nat.zero_le _) (Nat.zero_le _) dX4_dropFirst_57 ?_
        refine pt4_2 C hP hD hS in_X4_dropFirst_4 ln_X4_dropFirst_1 dX4_dropFirst_60 (fun H locs hP hD hS => ?_)
        refine lv_aload_n hx hb dX4_dropFirst_63 rfl (lv_at hl 0 rfl) ?_
        refine lv_iconst (v := 0) hx hb dX4_dropFirst_64 (by decide) ?_
        refine pt4_3 C hP hD hS in_X4_dropFirst_4 ln_X4_dropFirst_8 dX4_dropFirst_65 (fun H locs hP hD hS => ?_)
        exact rt_v C hr hlk hP hD hS (hF.trans ((if_neg c_1).trans ((if_pos c_2).trans rfl))) dX4_dropFirst_68
      · refine lv_aload_n hx hb dX4_dropFirst_15 rfl (lv_at hl 0 rfl) ?_
        refine gt4_0 C hP in_X4_dropFirst_4 ln_X4_dropFirst_2 dX4_dropFirst_16 ?_
        refine lv_iload_n hx hb dX4_dropFirst_19 rfl (lv_at hl 1 rfl) ?_
        refine lv_iconst (v := 1) hx hb dX4_dropFirst_20 (by decide) ?_
        refine lv_isub hx hb dX4_dropFirst_21 ?_
        refine lv_aload_n hx hb dX4_dropFirst_22 rfl (lv_at hl 0 rfl) ?_
        refine gt4_0 C hP in_X4_dropFirst_4 ln_X4_dropFirst_2 dX4_dropFirst_23 ?_
        refine lv_iload_n hx hb dX4_dropFirst_26 rfl (lv_at hl 1 rfl) ?_
        refine al4_0 C hP (ix_c (n := 2) (by omega) (nle_k c_2 (by decide))) (v := (u.2 0 (Int32.toNatClampNeg x1))) rfl dX4_dropFirst_27 ?_
        refine as4_0 C hP hD hS (ix_c (n := 2) (by have h := sub1_t (x := x1) (by omega); omega) (by have h := sub1_t (x := x1) (by omega); have h2 := nle_k (n := 2) c_2 (by decide); omega)) dX4_dropFirst_28 (fun H locs hP hD hS => ?_)
        refine lv_aload_n hx hb dX4_dropFirst_29 rfl (lv_at hl 0 rfl) ?_
        refine gt4_1 C hP in_X4_dropFirst_4 ln_X4_dropFirst_3 dX4_dropFirst_30 ?_
        refine lv_iload_n hx hb dX4_dropFirst_33 rfl (lv_at hl 1 rfl) ?_
        refine lv_iconst (v := 1) hx hb dX4_dropFirst_34 (by decide) ?_
        refine lv_isub hx hb dX4_dropFirst_35 ?_
        refine lv_aload_n hx hb dX4_dropFirst_36 rfl (lv_at hl 0 rfl) ?_
        refine gt4_1 C hP in_X4_dropFirst_4 ln_X4_dropFirst_3 dX4_dropFirst_37 ?_
        refine lv_iload_n hx hb dX4_dropFirst_40 rfl (lv_at hl 1 rfl) ?_
        refine al4_1 C hP (ix_c (n := 2) (by omega) (nle_k c_2 (by decide))) (v := (u.2 1 (Int32.toNatClampNeg x1))) rfl dX4_dropFirst_41 ?_
        refine as4_1 C hP hD hS (ix_c (n := 2) (by have h := sub1_t (x := x1) (by omega); omega) (by have h := sub1_t (x := x1) (by omega); have h2 := nle_k (n := 2) c_2 (by decide); omega)) dX4_dropFirst_42 (fun H locs hP hD hS => ?_)
        refine lv_iinc (v := (x1 + 1)) (lv' := [(1, .int _), (0, .ref _)]) hx hb dX4_dropFirst_43 hl (k := 1) rfl rfl (by decide) rfl (fun ls hl => ?_)
        refine lv_goto (tgt := 2) hx hb dX4_dropFirst_46 (by decide) ?_
        exact ih (x1 + 1) (ob_a (ob_a u 0 (Int32.toNatClampNeg (x1 - 1)) (u.2 0 (Int32.toNatClampNeg x1))) 1 (Int32.toNatClampNeg (x1 - 1)) (u.2 1 (Int32.toNatClampNeg x1)))  _ _ _ (by have h := nle_k (n := 2) c_2 (by decide); have h2 := inc_b h (by decide); omega) (by have h := nle_k (n := 2) c_2 (by decide); have h2 := inc_b h (by decide); omega) (hF.trans ((if_neg c_1).trans ((if_neg c_2).trans rfl))) hP hD hS (lv_sub hl [1, 0] rfl)
set_option maxHeartbeats 4000000 in
set_option maxRecDepth 100000 in
theorem c_X4_dropFirst (l : Launch) (D : va_G) (cI cZ : ClassId) (h h1 h2 : Nat) (u : ob_S)  : Ct_v l yX4_dropFirst wsX4_dropFirst ({ frames := 1, cells := 0, slots := 0, locals := 24 } : Room) D (ct_T cI cZ) [.ref h] (w_4 cI h h1 h2 u) (fun u => (w_4 cI h h1 h2 u)) (f_X4_dropFirst u) := by
  refine en_v (cc := cX4_dropFirst) (maxL := 2) (ret := none) (own := RX4) (by decide +kernel) rfl rfl (Nat.le_of_ble_eq_true rfl) ?_
  intro p e s m args below meth c A ls C hr hlk hP hD hS hl
  have hx := C.1
  have hb := C.2.1
  have hl : lv_has ls 2 [(0, .ref h)] := hl
  refine lv_iconst (v := 1) hx hb dX4_dropFirst_0 (by decide) ?_
  refine lv_istore_n (lv' := [(1, .int _), (0, .ref _)]) hx hb dX4_dropFirst_1 rfl hl (by decide) rfl (fun ls hl => ?_)
  exact lp_X4_dropFirst_2 C hr hlk  2 1 u _ _ _ (by decide) (by decide) rfl hP hD hS (lv_sub hl [1, 0] rfl)
theorem ln_X0_tickGroup_1 : Cond.fieldLink RX0 21 "BlockCard$Eraser" "ticksOfLowest" "I" ∈ wsX0_tickGroup := List.mem_of_getElem? (i := 1) rfl
theorem in_X0_tickGroup_0 : ∀ w ∈ wsX00, w ∈ wsX0_tickGroup := fun w h => List.mem_cons_of_mem _ (List.mem_append_right _ h)
theorem ln_X0_tickGroup_2 : Cond.fieldLink RX0 14 "BlockCard$Eraser" "lowest" "I" ∈ wsX0_tickGroup := List.mem_of_getElem? (i := 2) rfl
theorem ln_X0_tickGroup_3 : Cond.fieldLink RX0 18 "BlockCard$Eraser" "left" "I" ∈ wsX0_tickGroup := List.mem_of_getElem? (i := 3) rfl
set_option maxHeartbeats 4000000 in
set_option maxRecDepth 100000 in
theorem c_X0_tickGroup (l : Launch) (D : va_G) (cI cZ : ClassId) (h : Nat) (u : ob_S)  : Ct_i l yX0_tickGroup wsX0_tickGroup ({ frames := 0, cells := 0, slots := 0, locals := 0 } : Room) D (ct_T cI cZ) [.ref h] (w_0 h u) (fun u => (w_0 h u)) (f_X0_tickGroup u) := by
  refine en_i (cc := cX0_tickGroup) (maxL := 1) (ret := (some .boolean)) (own := RX0) (by decide +kernel) rfl rfl (Nat.le_of_ble_eq_true rfl) ?_
  intro p e s m args below meth c A ls C hr hlk hP hD hS hl
  have hx := C.1
  have hb := C.2.1
  have hl : lv_has ls 1 [(0, .ref h)] := hl
  refine lv_aload_n hx hb dX0_tickGroup_0 rfl (lv_at hl 0 rfl) ?_
  refine lv_dup hx hb dX0_tickGroup_1 rfl ?_
  refine gt0_5 C hP in_X0_tickGroup_0 ln_X0_tickGroup_1 (v := (u.1 5)) rfl dX0_tickGroup_2 ?_
  refine lv_iconst (v := 1) hx hb dX0_tickGroup_5 (by decide) ?_
  refine lv_iadd hx hb dX0_tickGroup_6 ?_
  refine pt0_5 C hP hD hS in_X0_tickGroup_0 ln_X0_tickGroup_1 dX0_tickGroup_7 (fun H locs hP hD hS => ?_)
  refine lv_aload_n hx hb dX0_tickGroup_10 rfl (lv_at hl 0 rfl) ?_
  refine gt0_5 C hP in_X0_tickGroup_0 ln_X0_tickGroup_1 (v := ((u.1 5) + 1)) rfl dX0_tickGroup_11 ?_
  refine lv_iconst (v := 2) hx hb dX0_tickGroup_14 (by decide) ?_
  refine lv_icmp_ge (tgt := 20) hx hb dX0_tickGroup_15 (by decide) (fun c_1 => ?_) (fun c_1 => ?_)
  · refine lv_aload_n hx hb dX0_tickGroup_20 rfl (lv_at hl 0 rfl) ?_
    refine lv_dup hx hb dX0_tickGroup_21 rfl ?_
    refine gt0_3 C hP in_X0_tickGroup_0 ln_X0_tickGroup_2 (v := (u.1 3)) rfl dX0_tickGroup_22 ?_
    refine lv_iconst (v := 1) hx hb dX0_tickGroup_25 (by decide) ?_
    refine lv_iadd hx hb dX0_tickGroup_26 ?_
    refine pt0_3 C hP hD hS in_X0_tickGroup_0 ln_X0_tickGroup_2 dX0_tickGroup_27 (fun H locs hP hD hS => ?_)
    refine lv_aload_n hx hb dX0_tickGroup_30 rfl (lv_at hl 0 rfl) ?_
    refine lv_dup hx hb dX0_tickGroup_31 rfl ?_
    refine gt0_4 C hP in_X0_tickGroup_0 ln_X0_tickGroup_3 (v := (u.1 4)) rfl dX0_tickGroup_32 ?_
    refine lv_iconst (v := 1) hx hb dX0_tickGroup_35 (by decide) ?_
    refine lv_isub hx hb dX0_tickGroup_36 ?_
    refine pt0_4 C hP hD hS in_X0_tickGroup_0 ln_X0_tickGroup_3 dX0_tickGroup_37 (fun H locs hP hD hS => ?_)
    refine lv_aload_n hx hb dX0_tickGroup_40 rfl (lv_at hl 0 rfl) ?_
    refine lv_iconst (v := 0) hx hb dX0_tickGroup_41 (by decide) ?_
    refine pt0_5 C hP hD hS in_X0_tickGroup_0 ln_X0_tickGroup_1 dX0_tickGroup_42 (fun H locs hP hD hS => ?_)
    refine lv_iconst (v := 1) hx hb dX0_tickGroup_45 (by decide) ?_
    exact rt_z C hr hlk (Or.inr rfl) hP hD hS ((if_pos c_1).trans rfl) dX0_tickGroup_46
  · refine lv_iconst (v := 0) hx hb dX0_tickGroup_18 (by decide) ?_
    exact rt_z C hr hlk (Or.inl rfl) hP hD hS ((if_neg c_1).trans rfl) dX0_tickGroup_19
theorem ln_X2_point_1 : Cond.fieldLink RX2 18 "BlockCard$Link" "point" "I" ∈ wsX2_point := List.mem_of_getElem? (i := 1) rfl
theorem in_X2_point_2 : ∀ w ∈ wsX20, w ∈ wsX2_point := fun w h => List.mem_cons_of_mem _ (List.mem_append_right _ h)
set_option maxHeartbeats 4000000 in
set_option maxRecDepth 100000 in
theorem c_X2_point (l : Launch) (D : va_G) (cI cZ : ClassId) (h : Nat) (u : ob_S)  : Ct_p l yX2_point wsX2_point ({ frames := 0, cells := 0, slots := 0, locals := 0 } : Room) D (ct_T cI cZ) [.ref h] (w_2 h u) (f_X2_point u) := by
  refine en_p (cc := cX2_point) (maxL := 1) (ret := (some .int)) (own := RX2) (by decide +kernel) rfl rfl (Nat.le_of_ble_eq_true rfl) ?_
  intro p e s m args below meth c A ls C hr hlk hP hD hS hl
  have hx := C.1
  have hb := C.2.1
  have hl : lv_has ls 1 [(0, .ref h)] := hl
  refine lv_aload_n hx hb dX2_point_0 rfl (lv_at hl 0 rfl) ?_
  refine gt2_2 C hP in_X2_point_2 ln_X2_point_1 (v := (u.1 2)) rfl dX2_point_1 ?_
  exact rt_p C hr hlk hS rfl dX2_point_4
theorem ln_X5_isCounted_1 : Cond.fieldLink RX5 19 "BlockCard$Stream" "counted" "Z" ∈ wsX5_isCounted := List.mem_of_getElem? (i := 1) rfl
theorem in_X5_isCounted_5 : ∀ w ∈ wsX50, w ∈ wsX5_isCounted := fun w h => List.mem_cons_of_mem _ (List.mem_append_right _ h)
set_option maxHeartbeats 4000000 in
set_option maxRecDepth 100000 in
theorem c_X5_isCounted (l : Launch) (D : va_G) (cI cZ : ClassId) (h : Nat) (u : ob_S) (hz3 : u.1 3 = 0 ∨ u.1 3 = 1) : Ct_p l yX5_isCounted wsX5_isCounted ({ frames := 0, cells := 0, slots := 0, locals := 0 } : Room) D (ct_T cI cZ) [.ref h] (w_5 h u) (f_X5_isCounted u) := by
  refine en_p (cc := cX5_isCounted) (maxL := 1) (ret := (some .boolean)) (own := RX5) (by decide +kernel) rfl rfl (Nat.le_of_ble_eq_true rfl) ?_
  intro p e s m args below meth c A ls C hr hlk hP hD hS hl
  have hx := C.1
  have hb := C.2.1
  have hl : lv_has ls 1 [(0, .ref h)] := hl
  refine lv_aload_n hx hb dX5_isCounted_0 rfl (lv_at hl 0 rfl) ?_
  refine gt5_3 C hP in_X5_isCounted_5 ln_X5_isCounted_1 (v := (u.1 3)) rfl dX5_isCounted_1 ?_
  exact rt_q C hr hlk hz3 hS rfl dX5_isCounted_4
theorem ln_X5_left_1 : Cond.fieldLink RX5 16 "BlockCard$Stream" "left" "I" ∈ wsX5_left := List.mem_of_getElem? (i := 1) rfl
theorem in_X5_left_5 : ∀ w ∈ wsX50, w ∈ wsX5_left := fun w h => List.mem_cons_of_mem _ (List.mem_append_right _ h)
set_option maxHeartbeats 4000000 in
set_option maxRecDepth 100000 in
theorem c_X5_left (l : Launch) (D : va_G) (cI cZ : ClassId) (h : Nat) (u : ob_S)  : Ct_p l yX5_left wsX5_left ({ frames := 0, cells := 0, slots := 0, locals := 0 } : Room) D (ct_T cI cZ) [.ref h] (w_5 h u) (f_X5_left u) := by
  refine en_p (cc := cX5_left) (maxL := 1) (ret := (some .int)) (own := RX5) (by decide +kernel) rfl rfl (Nat.le_of_ble_eq_true rfl) ?_
  intro p e s m args below meth c A ls C hr hlk hP hD hS hl
  have hx := C.1
  have hb := C.2.1
  have hl : lv_has ls 1 [(0, .ref h)] := hl
  refine lv_aload_n hx hb dX5_left_0 rfl (lv_at hl 0 rfl) ?_
  refine gt5_2 C hP in_X5_left_5 ln_X5_left_1 (v := (u.1 2)) rfl dX5_left_1 ?_
  exact rt_p C hr hlk hS rfl dX5_left_4
