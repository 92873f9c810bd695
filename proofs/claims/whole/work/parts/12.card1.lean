set_option maxHeartbeats 4000000 in
set_option maxRecDepth 100000 in
theorem c_X6_isOutside (l : Launch) (D : va_G) (cI cZ : ClassId)  (x0 : Int32) (x1 : Int32) (x2 : Int32)  : Ct_p l yX6_isOutside wsX6_isOutside ({ frames := 0, cells := 0, slots := 0, locals := 0 } : Room) D (ct_T cI cZ) [.int x0, .int x1, .int x2] [] (f_X6_isOutside x0 x1 x2) := by
  refine en_p (cc := cX6_isOutside) (maxL := 3) (ret := (some .boolean)) (own := RX6) (by decide +kernel) rfl rfl (Nat.le_of_ble_eq_true rfl) ?_
  intro p e s m args below meth c A ls C hr hlk hP hD hS hl
  have hx := C.1
  have hb := C.2.1
  have hl : lv_has ls 3 [(0, .int x0), (1, .int x1), (2, .int x2)] := hl
  refine lv_iload_n hx hb dX6_isOutside_0 rfl (lv_at hl 0 rfl) ?_
  refine lv_iload_n hx hb dX6_isOutside_1 rfl (lv_at hl 1 rfl) ?_
  refine lv_icmp_lt (tgt := 10) hx hb dX6_isOutside_2 (by decide) (fun c_1 => ?_) (fun c_1 => ?_)
  · refine lv_iconst (v := 1) hx hb dX6_isOutside_10 (by decide) ?_
    refine lv_goto (tgt := 15) hx hb dX6_isOutside_11 (by decide) ?_
    exact rt_q C hr hlk (Or.inr rfl) hS ((if_pos c_1).trans rfl) dX6_isOutside_15
  · refine lv_iload_n hx hb dX6_isOutside_5 rfl (lv_at hl 0 rfl) ?_
    refine lv_iload_n hx hb dX6_isOutside_6 rfl (lv_at hl 2 rfl) ?_
    refine lv_icmp_le (tgt := 14) hx hb dX6_isOutside_7 (by decide) (fun c_2 => ?_) (fun c_2 => ?_)
    · refine lv_iconst (v := 0) hx hb dX6_isOutside_14 (by decide) ?_
      exact rt_q C hr hlk (Or.inl rfl) hS ((if_neg c_1).trans ((if_pos c_2).trans rfl)) dX6_isOutside_15
    · refine lv_iconst (v := 1) hx hb dX6_isOutside_10 (by decide) ?_
      refine lv_goto (tgt := 15) hx hb dX6_isOutside_11 (by decide) ?_
      exact rt_q C hr hlk (Or.inr rfl) hS ((if_neg c_1).trans ((if_neg c_2).trans rfl)) dX6_isOutside_15
theorem ln_X6_goDark_1 : Cond.fieldLink RX6 111 "BlockCard" "state" "I" ∈ wsX6_goDark := List.mem_of_getElem? (i := 1) rfl
theorem in_X6_goDark_6 : ∀ w ∈ wsX60, w ∈ wsX6_goDark := fun w h => List.mem_cons_of_mem _ (List.mem_append_left _ (List.mem_append_left _ (List.mem_append_left _ (List.mem_append_left _ (List.mem_append_right _ h)))))
theorem ln_X6_goDark_2 : Cond.fieldLink RX6 185 "BlockCard" "address" "I" ∈ wsX6_goDark := List.mem_of_getElem? (i := 2) rfl
theorem ln_X6_goDark_3 : Cond.fieldLink RX6 201 "BlockCard" "notes" "I" ∈ wsX6_goDark := List.mem_of_getElem? (i := 3) rfl
theorem ln_X6_goDark_4 : Cond.fieldLink RX6 244 "BlockCard" "woken" "I" ∈ wsX6_goDark := List.mem_of_getElem? (i := 4) rfl
theorem ln_X6_goDark_5 : Cond.fieldLink RX6 197 "BlockCard" "locked" "Z" ∈ wsX6_goDark := List.mem_of_getElem? (i := 5) rfl
theorem ln_X6_goDark_6 : Cond.fieldLink RX6 52 "BlockCard" "link" "LBlockCard$Link;" ∈ wsX6_goDark := List.mem_of_getElem? (i := 6) rfl
theorem ln_X6_goDark_7 : Cond.fieldLink RX6 31 "BlockCard" "queue" "LBlockCard$Queue;" ∈ wsX6_goDark := List.mem_of_getElem? (i := 7) rfl
theorem ln_X6_goDark_8 : Cond.fieldLink RX6 38 "BlockCard" "eraser" "LBlockCard$Eraser;" ∈ wsX6_goDark := List.mem_of_getElem? (i := 8) rfl
theorem ln_X6_goDark_9 : Cond.fieldLink RX6 45 "BlockCard" "stream" "LBlockCard$Stream;" ∈ wsX6_goDark := List.mem_of_getElem? (i := 9) rfl
set_option maxHeartbeats 4000000 in
set_option maxRecDepth 100000 in
theorem c_X6_goDark (l : Launch) (D : va_G) (cI cZ : ClassId) (ad : Nat → Nat) (u : cd_S)  : Ct_v l yX6_goDark wsX6_goDark ({ frames := 2, cells := 0, slots := 0, locals := 40 } : Room) D (ct_T cI cZ) [.ref (ad 0)] (w_6 cI cZ ad u) (fun u => (w_6 cI cZ ad u)) (f_X6_goDark u) := by
  refine en_v (cc := cX6_goDark) (maxL := 1) (ret := none) (own := RX6) (by decide +kernel) rfl rfl (Nat.le_of_ble_eq_true rfl) ?_
  intro p e s m args below meth c A ls C hr hlk hP hD hS hl
  have hx := C.1
  have hb := C.2.1
  have hl : lv_has ls 1 [(0, .ref (ad 0))] := hl
  refine lv_aload_n hx hb dX6_goDark_0 rfl (lv_at hl 0 rfl) ?_
  refine lv_iconst (v := (-1)) hx hb dX6_goDark_1 (by decide) ?_
  refine pt6_12 C hP hD hS in_X6_goDark_6 ln_X6_goDark_1 dX6_goDark_2 (fun H locs hP hD hS => ?_)
  refine lv_aload_n hx hb dX6_goDark_5 rfl (lv_at hl 0 rfl) ?_
  refine lv_iconst (v := 0) hx hb dX6_goDark_6 (by decide) ?_
  refine pt6_13 C hP hD hS in_X6_goDark_6 ln_X6_goDark_2 dX6_goDark_7 (fun H locs hP hD hS => ?_)
  refine lv_aload_n hx hb dX6_goDark_10 rfl (lv_at hl 0 rfl) ?_
  refine lv_iconst (v := 0) hx hb dX6_goDark_11 (by decide) ?_
  refine pt6_14 C hP hD hS in_X6_goDark_6 ln_X6_goDark_3 dX6_goDark_12 (fun H locs hP hD hS => ?_)
  refine lv_aload_n hx hb dX6_goDark_15 rfl (lv_at hl 0 rfl) ?_
  refine lv_iconst (v := 0) hx hb dX6_goDark_16 (by decide) ?_
  refine pt6_15 C hP hD hS in_X6_goDark_6 ln_X6_goDark_4 dX6_goDark_17 (fun H locs hP hD hS => ?_)
  refine lv_aload_n hx hb dX6_goDark_20 rfl (lv_at hl 0 rfl) ?_
  refine lv_iconst (v := 0) hx hb dX6_goDark_21 (by decide) ?_
  refine pt6_16 C hP hD hS in_X6_goDark_6 ln_X6_goDark_5 (Or.inl rfl) dX6_goDark_22 (fun H locs hP hD hS => ?_)
  refine lv_aload_n hx hb dX6_goDark_25 rfl (lv_at hl 0 rfl) ?_
  refine gt6_6 C hP in_X6_goDark_6 ln_X6_goDark_6 dX6_goDark_26 ?_
  refine kv_v C (c_X2_clear l D cI cZ (ad 14) (u 7)  ) (cwV 0 C.2.2.2.2.1 gX6_goDark_X2_clear rfl rfl rfl hdX2_clear ⟨Nat.le_of_ble_eq_true rfl, Nat.le_of_ble_eq_true rfl⟩) (ci := 2) (q0 := 0) rfl rfl rfl hP hD hS (sp_6_7 cI cZ ad (cd_i (cd_i (cd_i (cd_i (cd_i u 12 (-1)) 13 0) 14 0) 15 0) 16 0)) rfl hl.1 rfl (Nat.le_of_ble_eq_true rfl) dX6_goDark_29 ⟨Nat.zero_le _, Nat.zero_le _⟩ (fun H locs hP hD hS => ?_)
  refine lv_aload_n hx hb dX6_goDark_32 rfl (lv_at hl 0 rfl) ?_
  refine gt6_3 C hP in_X6_goDark_6 ln_X6_goDark_7 dX6_goDark_33 ?_
  refine kv_v C (c_X4_clear l D cI cZ (ad 9) (ad 10) (ad 11) (u 4)  ) (cwV 0 C.2.2.2.2.1 gX6_goDark_X4_clear rfl rfl rfl hdX4_clear ⟨Nat.le_of_ble_eq_true rfl, Nat.le_of_ble_eq_true rfl⟩) (ci := 4) (q0 := 0) rfl rfl rfl hP hD hS (sp_6_4 cI cZ ad (va_up (cd_i (cd_i (cd_i (cd_i (cd_i u 12 (-1)) 13 0) 14 0) 15 0) 16 0) 7 (f_X2_clear (u 7)))) rfl hl.1 rfl (Nat.le_of_ble_eq_true rfl) dX6_goDark_36 ⟨Nat.zero_le _, Nat.zero_le _⟩ (fun H locs hP hD hS => ?_)
  refine lv_aload_n hx hb dX6_goDark_39 rfl (lv_at hl 0 rfl) ?_
  refine gt6_4 C hP in_X6_goDark_6 ln_X6_goDark_8 dX6_goDark_40 ?_
  refine kv_v C (c_X0_clear l D cI cZ (ad 12) (u 5)  ) (cwV 0 C.2.2.2.2.1 gX6_goDark_X0_clear rfl rfl rfl hdX0_clear ⟨Nat.le_of_ble_eq_true rfl, Nat.le_of_ble_eq_true rfl⟩) (ci := 0) (q0 := 0) rfl rfl rfl hP hD hS (sp_6_5 cI cZ ad (va_up (va_up (cd_i (cd_i (cd_i (cd_i (cd_i u 12 (-1)) 13 0) 14 0) 15 0) 16 0) 7 (f_X2_clear (u 7))) 4 (f_X4_clear (u 4)))) rfl hl.1 rfl (Nat.le_of_ble_eq_true rfl) dX6_goDark_43 ⟨Nat.zero_le _, Nat.zero_le _⟩ (fun H locs hP hD hS => ?_)
  refine lv_aload_n hx hb dX6_goDark_46 rfl (lv_at hl 0 rfl) ?_
  refine gt6_5 C hP in_X6_goDark_6 ln_X6_goDark_9 dX6_goDark_47 ?_
  refine kv_v C (c_X5_clear l D cI cZ (ad 13) (u 6)  ) (cwV 0 C.2.2.2.2.1 gX6_goDark_X5_clear rfl rfl rfl hdX5_clear ⟨Nat.le_of_ble_eq_true rfl, Nat.le_of_ble_eq_true rfl⟩) (ci := 5) (q0 := 0) rfl rfl rfl hP hD hS (sp_6_6 cI cZ ad (va_up (va_up (va_up (cd_i (cd_i (cd_i (cd_i (cd_i u 12 (-1)) 13 0) 14 0) 15 0) 16 0) 7 (f_X2_clear (u 7))) 4 (f_X4_clear (u 4))) 5 (f_X0_clear (u 5)))) rfl hl.1 rfl (Nat.le_of_ble_eq_true rfl) dX6_goDark_50 ⟨Nat.zero_le _, Nat.zero_le _⟩ (fun H locs hP hD hS => ?_)
  exact rt_v C hr hlk hP hD hS rfl dX6_goDark_53
theorem ln_X6_renew_1 : Cond.fieldLink RX6 235 "BlockCard" "idleness" "I" ∈ wsX6_renew := List.mem_of_getElem? (i := 1) rfl
theorem in_X6_renew_6 : ∀ w ∈ wsX60, w ∈ wsX6_renew := fun w h => List.mem_cons_of_mem _ (List.mem_append_left _ (List.mem_append_left _ (List.mem_append_left _ (List.mem_append_left _ (List.mem_append_left _ (List.mem_append_left _ (List.mem_append_right _ h)))))))
theorem ln_X6_renew_2 : Cond.fieldLink RX6 238 "BlockCard" "number" "I" ∈ wsX6_renew := List.mem_of_getElem? (i := 2) rfl
theorem ln_X6_renew_3 : Cond.fieldLink RX6 10 "BlockCard" "memory" "LBlockCard$Memory;" ∈ wsX6_renew := List.mem_of_getElem? (i := 3) rfl
theorem ln_X6_renew_4 : Cond.fieldLink RX6 25 "BlockCard" "secret" "LBlockCard$Letters;" ∈ wsX6_renew := List.mem_of_getElem? (i := 4) rfl
theorem ln_X6_renew_5 : Cond.fieldLink RX6 204 "BlockCard" "well" "I" ∈ wsX6_renew := List.mem_of_getElem? (i := 5) rfl
theorem ln_X6_renew_6 : Cond.fieldLink RX6 153 "BlockCard" "ticks" "I" ∈ wsX6_renew := List.mem_of_getElem? (i := 6) rfl
set_option maxHeartbeats 4000000 in
set_option maxRecDepth 100000 in
theorem c_X6_renew (l : Launch) (D : va_G) (cI cZ : ClassId) (ad : Nat → Nat) (u : cd_S) (x1 : Int32) (x2 : Int32) (x3 : Int32) (x4 : Int32)  : Ct_v l yX6_renew wsX6_renew ({ frames := 3, cells := 0, slots := 0, locals := 60 } : Room) D (ct_T cI cZ) [.ref (ad 0), .int x1, .int x2, .int x3, .int x4] (w_6 cI cZ ad u) (fun u => (w_6 cI cZ ad u)) (f_X6_renew u x1 x2 x3 x4) := by
  refine en_v (cc := cX6_renew) (maxL := 5) (ret := none) (own := RX6) (by decide +kernel) rfl rfl (Nat.le_of_ble_eq_true rfl) ?_
  intro p e s m args below meth c A ls C hr hlk hP hD hS hl
  have hx := C.1
  have hb := C.2.1
  have hl : lv_has ls 5 [(0, .ref (ad 0)), (1, .int x1), (2, .int x2), (3, .int x3), (4, .int x4)] := hl
  refine lv_aload_n hx hb dX6_renew_0 rfl (lv_at hl 0 rfl) ?_
  refine lv_iload_n hx hb dX6_renew_1 rfl (lv_at hl 3 rfl) ?_
  refine pt6_7 C hP hD hS in_X6_renew_6 ln_X6_renew_1 dX6_renew_2 (fun H locs hP hD hS => ?_)
  refine lv_aload_n hx hb dX6_renew_5 rfl (lv_at hl 0 rfl) ?_
  refine lv_iload hx hb dX6_renew_6 (lv_at hl 4 rfl) ?_
  refine pt6_8 C hP hD hS in_X6_renew_6 ln_X6_renew_2 dX6_renew_8 (fun H locs hP hD hS => ?_)
  refine lv_aload_n hx hb dX6_renew_11 rfl (lv_at hl 0 rfl) ?_
  refine gt6_0 C hP in_X6_renew_6 ln_X6_renew_3 dX6_renew_12 ?_
  refine lv_iload_n hx hb dX6_renew_15 rfl (lv_at hl 1 rfl) ?_
  refine lv_iload_n hx hb dX6_renew_16 rfl (lv_at hl 2 rfl) ?_
  refine kv_v C (c_X3_clear l D cI cZ (ad 1) (ad 2) (ad 3) (ad 4) (u 1) x1 x2 ) (cwV 2 C.2.2.2.2.1 gX6_renew_X3_clear rfl rfl rfl hdX3_clear ⟨Nat.le_of_ble_eq_true rfl, Nat.le_of_ble_eq_true rfl⟩) (ci := 3) (q0 := 0) rfl rfl rfl hP hD hS (sp_6_1 cI cZ ad (cd_i (cd_i u 7 x3) 8 x4)) rfl hl.1 rfl (Nat.le_of_ble_eq_true rfl) dX6_renew_17 ⟨Nat.zero_le _, Nat.zero_le _⟩ (fun H locs hP hD hS => ?_)
  refine lv_aload_n hx hb dX6_renew_20 rfl (lv_at hl 0 rfl) ?_
  refine gt6_2 C hP in_X6_renew_6 ln_X6_renew_4 dX6_renew_21 ?_
  refine kv_v C (c_X1_empty l D cI cZ 8 (ad 7) (ad 8) (u 3)  ) (cwV 0 C.2.2.2.2.1 gX6_renew_X1_empty rfl rfl rfl hdX1_empty ⟨Nat.le_of_ble_eq_true rfl, Nat.le_of_ble_eq_true rfl⟩) (ci := 1) (q0 := 0) rfl rfl rfl hP hD hS (sp_6_3 cI cZ ad (va_up (cd_i (cd_i u 7 x3) 8 x4) 1 (f_X3_clear (u 1) x1 x2))) rfl hl.1 rfl (Nat.le_of_ble_eq_true rfl) dX6_renew_24 ⟨Nat.zero_le _, Nat.zero_le _⟩ (fun H locs hP hD hS => ?_)
  refine lv_aload_n hx hb dX6_renew_27 rfl (lv_at hl 0 rfl) ?_
  refine lv_iconst (v := 0) hx hb dX6_renew_28 (by decide) ?_
  refine pt6_9 C hP hD hS in_X6_renew_6 ln_X6_renew_5 dX6_renew_29 (fun H locs hP hD hS => ?_)
  refine lv_aload_n hx hb dX6_renew_32 rfl (lv_at hl 0 rfl) ?_
  refine lv_iconst (v := 0) hx hb dX6_renew_33 (by decide) ?_
  refine pt6_10 C hP hD hS in_X6_renew_6 ln_X6_renew_6 dX6_renew_34 (fun H locs hP hD hS => ?_)
  refine lv_aload_n hx hb dX6_renew_37 rfl (lv_at hl 0 rfl) ?_
  refine kv_v C (c_X6_goDark l D cI cZ ad (cd_i (cd_i (va_up (va_up (cd_i (cd_i u 7 x3) 8 x4) 1 (f_X3_clear (u 1) x1 x2)) 3 (f_X1_empty 8 (u 3))) 9 0) 10 0)  ) (cwV 0 C.2.2.2.2.1 gX6_renew_X6_goDark rfl rfl rfl hdX6_goDark ⟨Nat.le_of_ble_eq_true rfl, Nat.le_of_ble_eq_true rfl⟩) (ci := 6) (q0 := 0) rfl rfl rfl hP hD hS (sp_self (fun u => (w_6 cI cZ ad u)) 15 (fun _ => rfl)) rfl hl.1 rfl (Nat.le_of_ble_eq_true rfl) dX6_renew_38 ⟨Nat.zero_le _, Nat.zero_le _⟩ (fun H locs hP hD hS => ?_)
  exact rt_v C hr hlk hP hD hS rfl dX6_renew_41
theorem ln_X6_make_1 : Cond.constant RX6 64 (65535) ∈ wsX6_make := List.mem_of_getElem? (i := 1) rfl
set_option maxHeartbeats 4000000 in
set_option maxRecDepth 100000 in
theorem c_X6_make (l : Launch) (D : va_G) (cI cZ : ClassId) (ad : Nat → Nat) (u : cd_S) (x1 : Int32) (x2 : Int32) (x3 : Int32) (x4 : Int32)  : Ct_i l yX6_make wsX6_make ({ frames := 4, cells := 0, slots := 0, locals := 84 } : Room) D (ct_T cI cZ) [.ref (ad 0), .int x1, .int x2, .int x3, .int x4] (w_6 cI cZ ad u) (fun u => (w_6 cI cZ ad u)) (f_X6_make u x1 x2 x3 x4) := by
  refine en_i (cc := cX6_make) (maxL := 5) (ret := (some .int)) (own := RX6) (by decide +kernel) rfl rfl (Nat.le_of_ble_eq_true rfl) ?_
  intro p e s m args below meth c A ls C hr hlk hP hD hS hl
  have hx := C.1
  have hb := C.2.1
  have hl : lv_has ls 5 [(0, .ref (ad 0)), (1, .int x1), (2, .int x2), (3, .int x3), (4, .int x4)] := hl
  refine lv_iload_n hx hb dX6_make_0 rfl (lv_at hl 1 rfl) ?_
  refine lv_iconst (v := 4) hx hb dX6_make_1 (by decide) ?_
  refine lv_bipush (v := 64) hx hb dX6_make_2 (by decide) ?_
  refine ks_p C (c_X6_isOutside l D cI cZ x1 4 64 ) (va_cwS 3 C.2.2.2.2.1 gX6_make_X6_isOutside rfl rfl rfl hdX6_isOutside ⟨Nat.le_of_ble_eq_true rfl, Nat.le_of_ble_eq_true rfl⟩) hP hD hS rfl hl.1 rfl (Nat.le_of_ble_eq_true rfl) dX6_make_4 ⟨Nat.zero_le _, Nat.zero_le _⟩ (fun H locs hP hS => ?_)
  refine lv_if_ne (tgt := 20) hx hb dX6_make_7 (by decide) (fun c_1 => ?_) (fun c_1 => ?_)
  · refine lv_iconst (v := (-1)) hx hb dX6_make_20 (by decide) ?_
    exact rt_i C hr hlk hP hD hS ((if_neg c_1).trans rfl) dX6_make_21
  · refine lv_iload_n hx hb dX6_make_10 rfl (lv_at hl 2 rfl) ?_
    refine lv_iconst (v := 1) hx hb dX6_make_11 (by decide) ?_
    refine lv_bipush (v := 8) hx hb dX6_make_12 (by decide) ?_
    refine ks_p C (c_X6_isOutside l D cI cZ x2 1 8 ) (va_cwS 3 C.2.2.2.2.1 gX6_make_X6_isOutside rfl rfl rfl hdX6_isOutside ⟨Nat.le_of_ble_eq_true rfl, Nat.le_of_ble_eq_true rfl⟩) hP hD hS rfl hl.1 rfl (Nat.le_of_ble_eq_true rfl) dX6_make_14 ⟨Nat.zero_le _, Nat.zero_le _⟩ (fun H locs hP hS => ?_)
    refine lv_if_eq (tgt := 22) hx hb dX6_make_17 (by decide) (fun c_2 => ?_) (fun c_2 => ?_)
    · refine lv_iload_n hx hb dX6_make_22 rfl (lv_at hl 3 rfl) ?_
      refine lv_iconst (v := 0) hx hb dX6_make_23 (by decide) ?_
      refine lv_bipush (v := 9) hx hb dX6_make_24 (by decide) ?_
      refine ks_p C (c_X6_isOutside l D cI cZ x3 0 9 ) (va_cwS 3 C.2.2.2.2.1 gX6_make_X6_isOutside rfl rfl rfl hdX6_isOutside ⟨Nat.le_of_ble_eq_true rfl, Nat.le_of_ble_eq_true rfl⟩) hP hD hS rfl hl.1 rfl (Nat.le_of_ble_eq_true rfl) dX6_make_26 ⟨Nat.zero_le _, Nat.zero_le _⟩ (fun H locs hP hS => ?_)
      refine lv_if_ne (tgt := 43) hx hb dX6_make_29 (by decide) (fun c_3 => ?_) (fun c_3 => ?_)
      · refine lv_iconst (v := (-1)) hx hb dX6_make_43 (by decide) ?_
        exact rt_i C hr hlk hP hD hS ((if_pos c_1).trans ((if_pos c_2).trans ((if_neg c_3).trans rfl))) dX6_make_44
      · refine lv_iload hx hb dX6_make_32 (lv_at hl 4 rfl) ?_
        refine lv_iconst (v := 0) hx hb dX6_make_34 (by decide) ?_
        refine lv_ldc (v := 65535) hx hb C.2.2.2.1 (C.2.2.2.2.1 _ ln_X6_make_1) dX6_make_35 ?_
        refine ks_p C (c_X6_isOutside l D cI cZ x4 0 65535 ) (va_cwS 3 C.2.2.2.2.1 gX6_make_X6_isOutside rfl rfl rfl hdX6_isOutside ⟨Nat.le_of_ble_eq_true rfl, Nat.le_of_ble_eq_true rfl⟩) hP hD hS rfl hl.1 rfl (Nat.le_of_ble_eq_true rfl) dX6_make_37 ⟨Nat.zero_le _, Nat.zero_le _⟩ (fun H locs hP hS => ?_)
        refine lv_if_eq (tgt := 45) hx hb dX6_make_40 (by decide) (fun c_4 => ?_) (fun c_4 => ?_)
        · refine lv_aload_n hx hb dX6_make_45 rfl (lv_at hl 0 rfl) ?_
          refine lv_iload_n hx hb dX6_make_46 rfl (lv_at hl 1 rfl) ?_
          refine lv_iload_n hx hb dX6_make_47 rfl (lv_at hl 2 rfl) ?_
          refine lv_iload_n hx hb dX6_make_48 rfl (lv_at hl 3 rfl) ?_
          refine lv_iload hx hb dX6_make_49 (lv_at hl 4 rfl) ?_
          refine kv_v C (c_X6_renew l D cI cZ ad u x1 x2 x3 x4 ) (cwV 4 C.2.2.2.2.1 gX6_make_X6_renew rfl rfl rfl hdX6_renew ⟨Nat.le_of_ble_eq_true rfl, Nat.le_of_ble_eq_true rfl⟩) (ci := 6) (q0 := 0) rfl rfl rfl hP hD hS (sp_self (fun u => (w_6 cI cZ ad u)) 15 (fun _ => rfl)) rfl hl.1 rfl (Nat.le_of_ble_eq_true rfl) dX6_make_51 ⟨Nat.zero_le _, Nat.zero_le _⟩ (fun H locs hP hD hS => ?_)
          refine lv_iload_n hx hb dX6_make_54 rfl (lv_at hl 1 rfl) ?_
          exact rt_i C hr hlk hP hD hS ((if_pos c_1).trans ((if_pos c_2).trans ((if_pos c_3).trans ((if_pos c_4).trans rfl)))) dX6_make_55
        · refine lv_iconst (v := (-1)) hx hb dX6_make_43 (by decide) ?_
          exact rt_i C hr hlk hP hD hS ((if_pos c_1).trans ((if_pos c_2).trans ((if_pos c_3).trans ((if_neg c_4).trans rfl)))) dX6_make_44
    · refine lv_iconst (v := (-1)) hx hb dX6_make_20 (by decide) ?_
      exact rt_i C hr hlk hP hD hS ((if_pos c_1).trans ((if_neg c_2).trans rfl)) dX6_make_21
theorem ln_X6_isPowered_1 : Cond.fieldLink RX6 111 "BlockCard" "state" "I" ∈ wsX6_isPowered := List.mem_of_getElem? (i := 1) rfl
theorem in_X6_isPowered_6 : ∀ w ∈ wsX60, w ∈ wsX6_isPowered := fun w h => List.mem_cons_of_mem _ (List.mem_append_right _ h)
set_option maxHeartbeats 4000000 in
set_option maxRecDepth 100000 in
theorem c_X6_isPowered (l : Launch) (D : va_G) (cI cZ : ClassId) (ad : Nat → Nat) (u : cd_S)  : Ct_p l yX6_isPowered wsX6_isPowered ({ frames := 0, cells := 0, slots := 0, locals := 0 } : Room) D (ct_T cI cZ) [.ref (ad 0)] (w_6 cI cZ ad u) (f_X6_isPowered u) := by
  refine en_p (cc := cX6_isPowered) (maxL := 1) (ret := (some .boolean)) (own := RX6) (by decide +kernel) rfl rfl (Nat.le_of_ble_eq_true rfl) ?_
  intro p e s m args below meth c A ls C hr hlk hP hD hS hl
  have hx := C.1
  have hb := C.2.1
  have hl : lv_has ls 1 [(0, .ref (ad 0))] := hl
  refine lv_aload_n hx hb dX6_isPowered_0 rfl (lv_at hl 0 rfl) ?_
  refine gt6_12 C hP in_X6_isPowered_6 ln_X6_isPowered_1 (v := ((u 0).1 12)) rfl dX6_isPowered_1 ?_
  refine lv_iconst (v := (-1)) hx hb dX6_isPowered_4 (by decide) ?_
  refine lv_icmp_eq (tgt := 12) hx hb dX6_isPowered_5 (by decide) (fun c_1 => ?_) (fun c_1 => ?_)
  · refine lv_iconst (v := 0) hx hb dX6_isPowered_12 (by decide) ?_
    exact rt_q C hr hlk (Or.inl rfl) hS ((if_pos c_1).trans rfl) dX6_isPowered_13
  · refine lv_iconst (v := 1) hx hb dX6_isPowered_8 (by decide) ?_
    refine lv_goto (tgt := 13) hx hb dX6_isPowered_9 (by decide) ?_
    exact rt_q C hr hlk (Or.inr rfl) hS ((if_neg c_1).trans rfl) dX6_isPowered_13
theorem ln_X6_start_1 : Cond.fieldLink RX6 111 "BlockCard" "state" "I" ∈ wsX6_start := List.mem_of_getElem? (i := 1) rfl
theorem in_X6_start_6 : ∀ w ∈ wsX60, w ∈ wsX6_start := fun w h => List.mem_cons_of_mem _ (List.mem_append_left _ (List.mem_append_left _ (List.mem_append_left _ (List.mem_append_left _ (List.mem_append_left _ (List.mem_append_right _ h))))))
theorem ln_X6_start_2 : Cond.fieldLink RX6 25 "BlockCard" "secret" "LBlockCard$Letters;" ∈ wsX6_start := List.mem_of_getElem? (i := 2) rfl
theorem ln_X6_start_3 : Cond.fieldLink RX6 197 "BlockCard" "locked" "Z" ∈ wsX6_start := List.mem_of_getElem? (i := 3) rfl
set_option maxHeartbeats 4000000 in
set_option maxRecDepth 100000 in
theorem c_X6_start (l : Launch) (D : va_G) (cI cZ : ClassId) (ad : Nat → Nat) (u : cd_S)  : Ct_v l yX6_start wsX6_start ({ frames := 3, cells := 0, slots := 0, locals := 60 } : Room) D (ct_T cI cZ) [.ref (ad 0)] (w_6 cI cZ ad u) (fun u => (w_6 cI cZ ad u)) (f_X6_start u) := by
  refine en_v (cc := cX6_start) (maxL := 1) (ret := none) (own := RX6) (by decide +kernel) rfl rfl (Nat.le_of_ble_eq_true rfl) ?_
  intro p e s m args below meth c A ls C hr hlk hP hD hS hl
  have hx := C.1
  have hb := C.2.1
  have hl : lv_has ls 1 [(0, .ref (ad 0))] := hl
  refine lv_aload_n hx hb dX6_start_0 rfl (lv_at hl 0 rfl) ?_
  refine kv_v C (c_X6_goDark l D cI cZ ad u  ) (cwV 0 C.2.2.2.2.1 gX6_start_X6_goDark rfl rfl rfl hdX6_goDark ⟨Nat.le_of_ble_eq_true rfl, Nat.le_of_ble_eq_true rfl⟩) (ci := 6) (q0 := 0) rfl rfl rfl hP hD hS (sp_self (fun u => (w_6 cI cZ ad u)) 15 (fun _ => rfl)) rfl hl.1 rfl (Nat.le_of_ble_eq_true rfl) dX6_start_1 ⟨Nat.zero_le _, Nat.zero_le _⟩ (fun H locs hP hD hS => ?_)
  refine lv_aload_n hx hb dX6_start_4 rfl (lv_at hl 0 rfl) ?_
  refine lv_iconst (v := 0) hx hb dX6_start_5 (by decide) ?_
  refine pt6_12 C hP hD hS in_X6_start_6 ln_X6_start_1 dX6_start_6 (fun H locs hP hD hS => ?_)
  refine lv_aload_n hx hb dX6_start_9 rfl (lv_at hl 0 rfl) ?_
  refine lv_aload_n hx hb dX6_start_10 rfl (lv_at hl 0 rfl) ?_
  refine gt6_2 C hP in_X6_start_6 ln_X6_start_2 dX6_start_11 ?_
  refine kv_p C (c_X1_length l D cI cZ 8 (ad 7) (ad 8) ((f_X6_goDark u) 3)  ) (cwV 0 C.2.2.2.2.1 gX6_start_X1_length rfl rfl rfl hdX1_length ⟨Nat.le_of_ble_eq_true rfl, Nat.le_of_ble_eq_true rfl⟩) (ci := 1) (q0 := 0) rfl rfl rfl hP hD hS (su_6_3 cI cZ ad (cd_i (f_X6_goDark u) 12 0)) rfl hl.1 rfl (Nat.le_of_ble_eq_true rfl) dX6_start_14 ⟨Nat.zero_le _, Nat.zero_le _⟩ (fun H locs hP hS => ?_)
  refine jn_i (g := fun x => F0 m 25 ls (.int x :: [.ref (ad 0)])) ((if (f_X1_length 8 ((f_X6_goDark u) 3)) ≤ 0 then 0 else 1)) (fun y_2 ey_2 => ?_) (fun J_2 => ?_)
  · refine pt6_16 C hP hD hS in_X6_start_6 ln_X6_start_3 (ey_2 ▸ (bz_ite (Or.inl rfl) (Or.inr rfl))) dX6_start_25 (fun H locs hP hD hS => ?_)
    subst ey_2
    exact rt_v C hr hlk hP hD hS rfl dX6_start_28
  · refine lv_if_le (tgt := 24) hx hb dX6_start_17 (by decide) (fun c_3 => ?_) (fun c_3 => ?_)
    · refine lv_iconst (v := 0) hx hb dX6_start_24 (by decide) ?_
      exact J_2 _ ((if_pos c_3).trans rfl).symm
    · refine lv_iconst (v := 1) hx hb dX6_start_20 (by decide) ?_
      refine lv_goto (tgt := 25) hx hb dX6_start_21 (by decide) ?_
      exact J_2 _ ((if_neg c_3).trans rfl).symm
theorem ln_X6_tearUnfinished_1 : Cond.fieldLink RX6 31 "BlockCard" "queue" "LBlockCard$Queue;" ∈ wsX6_tearUnfinished := List.mem_of_getElem? (i := 1) rfl
theorem in_X6_tearUnfinished_6 : ∀ w ∈ wsX60, w ∈ wsX6_tearUnfinished := fun w h => List.mem_cons_of_mem _ (List.mem_append_left _ (List.mem_append_left _ (List.mem_append_left _ (List.mem_append_right _ h))))
theorem ln_X6_tearUnfinished_3 : Cond.fieldLink RX6 38 "BlockCard" "eraser" "LBlockCard$Eraser;" ∈ wsX6_tearUnfinished := List.mem_of_getElem? (i := 3) rfl
theorem ln_X6_tearUnfinished_2 : Cond.fieldLink RX6 10 "BlockCard" "memory" "LBlockCard$Memory;" ∈ wsX6_tearUnfinished := List.mem_of_getElem? (i := 2) rfl
set_option maxHeartbeats 4000000 in
set_option maxRecDepth 100000 in
theorem c_X6_tearUnfinished (l : Launch) (D : va_G) (cI cZ : ClassId) (ad : Nat → Nat) (u : cd_S) (hz : ((u 1).1 4).toInt ≤ 64) : Ct_v l yX6_tearUnfinished wsX6_tearUnfinished ({ frames := 3, cells := 0, slots := 0, locals := 70 } : Room) D (ct_T cI cZ) [.ref (ad 0)] (w_6 cI cZ ad u) (fun u => (w_6 cI cZ ad u)) (f_X6_tearUnfinished u) := by
  refine en_v (cc := cX6_tearUnfinished) (maxL := 1) (ret := none) (own := RX6) (by decide +kernel) rfl rfl (Nat.le_of_ble_eq_true rfl) ?_
  intro p e s m args below meth c A ls C hr hlk hP hD hS hl
  have hx := C.1
  have hb := C.2.1
  have hl : lv_has ls 1 [(0, .ref (ad 0))] := hl
  refine lv_aload_n hx hb dX6_tearUnfinished_0 rfl (lv_at hl 0 rfl) ?_
  refine gt6_3 C hP in_X6_tearUnfinished_6 ln_X6_tearUnfinished_1 dX6_tearUnfinished_1 ?_
  refine kv_p C (c_X4_firstHasBegun l D cI cZ (ad 9) (ad 10) (ad 11) (u 4)  ) (cwV 0 C.2.2.2.2.1 gX6_tearUnfinished_X4_firstHasBegun rfl rfl rfl hdX4_firstHasBegun ⟨Nat.le_of_ble_eq_true rfl, Nat.le_of_ble_eq_true rfl⟩) (ci := 4) (q0 := 0) rfl rfl rfl hP hD hS (su_6_4 cI cZ ad u) rfl hl.1 rfl (Nat.le_of_ble_eq_true rfl) dX6_tearUnfinished_4 ⟨Nat.zero_le _, Nat.zero_le _⟩ (fun H locs hP hS => ?_)
  refine lv_if_eq (tgt := 26) hx hb dX6_tearUnfinished_7 (by decide) (fun c_1 => ?_) (fun c_1 => ?_)
  · refine lv_aload_n hx hb dX6_tearUnfinished_26 rfl (lv_at hl 0 rfl) ?_
    refine gt6_4 C hP in_X6_tearUnfinished_6 ln_X6_tearUnfinished_3 dX6_tearUnfinished_27 ?_
    refine kv_p C (c_X0_groupHasBegun l D cI cZ (ad 12) (u 5)  ) (cwV 0 C.2.2.2.2.1 gX6_tearUnfinished_X0_groupHasBegun rfl rfl rfl hdX0_groupHasBegun ⟨Nat.le_of_ble_eq_true rfl, Nat.le_of_ble_eq_true rfl⟩) (ci := 0) (q0 := 0) rfl rfl rfl hP hD hS (su_6_5 cI cZ ad u) rfl hl.1 rfl (Nat.le_of_ble_eq_true rfl) dX6_tearUnfinished_30 ⟨Nat.zero_le _, Nat.zero_le _⟩ (fun H locs hP hS => ?_)
    refine lv_if_eq (tgt := 50) hx hb dX6_tearUnfinished_33 (by decide) (fun c_2 => ?_) (fun c_2 => ?_)
    · exact rt_v C hr hlk hP hD hS ((if_pos c_1).trans ((if_pos c_2).trans rfl)) dX6_tearUnfinished_50
    · refine lv_aload_n hx hb dX6_tearUnfinished_36 rfl (lv_at hl 0 rfl) ?_
      refine gt6_0 C hP in_X6_tearUnfinished_6 ln_X6_tearUnfinished_2 dX6_tearUnfinished_37 ?_
      refine lv_aload_n hx hb dX6_tearUnfinished_40 rfl (lv_at hl 0 rfl) ?_
      refine gt6_4 C hP in_X6_tearUnfinished_6 ln_X6_tearUnfinished_3 dX6_tearUnfinished_41 ?_
      refine kv_p C (c_X0_group l D cI cZ (ad 12) (u 5)  ) (cwV 0 C.2.2.2.2.1 gX6_tearUnfinished_X0_group rfl rfl rfl hdX0_group ⟨Nat.le_of_ble_eq_true rfl, Nat.le_of_ble_eq_true rfl⟩) (ci := 0) (q0 := 0) rfl rfl rfl hP hD hS (su_6_5 cI cZ ad u) rfl hl.1 rfl (Nat.le_of_ble_eq_true rfl) dX6_tearUnfinished_44 ⟨Nat.zero_le _, Nat.zero_le _⟩ (fun H locs hP hS => ?_)
      refine kv_v C (c_X3_tearGroup l D cI cZ (ad 1) (ad 2) (ad 3) (ad 4) (u 1) (f_X0_group (u 5)) (by first | exact hz | exact tg_4 hz)) (cwV 1 C.2.2.2.2.1 gX6_tearUnfinished_X3_tearGroup rfl rfl rfl hdX3_tearGroup ⟨Nat.le_of_ble_eq_true rfl, Nat.le_of_ble_eq_true rfl⟩) (ci := 3) (q0 := 0) rfl rfl rfl hP hD hS (sp_6_1 cI cZ ad u) rfl hl.1 rfl (Nat.le_of_ble_eq_true rfl) dX6_tearUnfinished_47 ⟨Nat.zero_le _, Nat.zero_le _⟩ (fun H locs hP hD hS => ?_)
      exact rt_v C hr hlk hP hD hS ((if_pos c_1).trans ((if_neg c_2).trans rfl)) dX6_tearUnfinished_50
  · refine lv_aload_n hx hb dX6_tearUnfinished_10 rfl (lv_at hl 0 rfl) ?_
    refine gt6_0 C hP in_X6_tearUnfinished_6 ln_X6_tearUnfinished_2 dX6_tearUnfinished_11 ?_
    refine lv_aload_n hx hb dX6_tearUnfinished_14 rfl (lv_at hl 0 rfl) ?_
    refine gt6_3 C hP in_X6_tearUnfinished_6 ln_X6_tearUnfinished_1 dX6_tearUnfinished_15 ?_
    refine lv_iconst (v := 0) hx hb dX6_tearUnfinished_18 (by decide) ?_
    refine lv_iconst (v := 0) hx hb dX6_tearUnfinished_19 (by decide) ?_
    refine kv_p C (c_X4_tellOf l D cI cZ (ad 9) (ad 10) (ad 11) (u 4) 0 0 ) (cwV 2 C.2.2.2.2.1 gX6_tearUnfinished_X4_tellOf rfl rfl rfl hdX4_tellOf ⟨Nat.le_of_ble_eq_true rfl, Nat.le_of_ble_eq_true rfl⟩) (ci := 4) (q0 := 0) rfl rfl rfl hP hD hS (su_6_4 cI cZ ad u) rfl hl.1 rfl (Nat.le_of_ble_eq_true rfl) dX6_tearUnfinished_20 ⟨Nat.zero_le _, Nat.zero_le _⟩ (fun H locs hP hS => ?_)
    refine kv_v C (c_X3_tear l D cI cZ (ad 1) (ad 2) (ad 3) (ad 4) (u 1) (f_X4_tellOf (u 4) 0 0) hz) (cwV 1 C.2.2.2.2.1 gX6_tearUnfinished_X3_tear rfl rfl rfl hdX3_tear ⟨Nat.le_of_ble_eq_true rfl, Nat.le_of_ble_eq_true rfl⟩) (ci := 3) (q0 := 0) rfl rfl rfl hP hD hS (sp_6_1 cI cZ ad u) rfl hl.1 rfl (Nat.le_of_ble_eq_true rfl) dX6_tearUnfinished_23 ⟨Nat.zero_le _, Nat.zero_le _⟩ (fun H locs hP hD hS => ?_)
    refine lv_aload_n hx hb dX6_tearUnfinished_26 rfl (lv_at hl 0 rfl) ?_
    refine gt6_4 C hP in_X6_tearUnfinished_6 ln_X6_tearUnfinished_3 dX6_tearUnfinished_27 ?_
    refine kv_p C (c_X0_groupHasBegun l D cI cZ (ad 12) (u 5)  ) (cwV 0 C.2.2.2.2.1 gX6_tearUnfinished_X0_groupHasBegun rfl rfl rfl hdX0_groupHasBegun ⟨Nat.le_of_ble_eq_true rfl, Nat.le_of_ble_eq_true rfl⟩) (ci := 0) (q0 := 0) rfl rfl rfl hP hD hS (su_6_5 cI cZ ad (va_up u 1 (f_X3_tear (u 1) (f_X4_tellOf (u 4) 0 0)))) rfl hl.1 rfl (Nat.le_of_ble_eq_true rfl) dX6_tearUnfinished_30 ⟨Nat.zero_le _, Nat.zero_le _⟩ (fun H locs hP hS => ?_)
    refine lv_if_eq (tgt := 50) hx hb dX6_tearUnfinished_33 (by decide) (fun c_5 => ?_) (fun c_5 => ?_)
    · exact rt_v C hr hlk hP hD hS ((if_neg c_1).trans ((if_pos c_5).trans rfl)) dX6_tearUnfinished_50
    · refine lv_aload_n hx hb dX6_tearUnfinished_36 rfl (lv_at hl 0 rfl) ?_
      refine gt6_0 C hP in_X6_tearUnfinished_6 ln_X6_tearUnfinished_2 dX6_tearUnfinished_37 ?_
      refine lv_aload_n hx hb dX6_tearUnfinished_40 rfl (lv_at hl 0 rfl) ?_
      refine gt6_4 C hP in_X6_tearUnfinished_6 ln_X6_tearUnfinished_3 dX6_tearUnfinished_41 ?_
      refine kv_p C (c_X0_group l D cI cZ (ad 12) (u 5)  ) (cwV 0 C.2.2.2.2.1 gX6_tearUnfinished_X0_group rfl rfl rfl hdX0_group ⟨Nat.le_of_ble_eq_true rfl, Nat.le_of_ble_eq_true rfl⟩) (ci := 0) (q0 := 0) rfl rfl rfl hP hD hS (su_6_5 cI cZ ad (va_up u 1 (f_X3_tear (u 1) (f_X4_tellOf (u 4) 0 0)))) rfl hl.1 rfl (Nat.le_of_ble_eq_true rfl) dX6_tearUnfinished_44 ⟨Nat.zero_le _, Nat.zero_le _⟩ (fun H locs hP hS => ?_)
      refine kv_v C (c_X3_tearGroup l D cI cZ (ad 1) (ad 2) (ad 3) (ad 4) (f_X3_tear (u 1) (f_X4_tellOf (u 4) 0 0)) (f_X0_group (u 5)) (by first | exact hz | exact tg_4 hz)) (cwV 1 C.2.2.2.2.1 gX6_tearUnfinished_X3_tearGroup rfl rfl rfl hdX3_tearGroup ⟨Nat.le_of_ble_eq_true rfl, Nat.le_of_ble_eq_true rfl⟩) (ci := 3) (q0 := 0) rfl rfl rfl hP hD hS (sp_6_1 cI cZ ad (va_up u 1 (f_X3_tear (u 1) (f_X4_tellOf (u 4) 0 0)))) rfl hl.1 rfl (Nat.le_of_ble_eq_true rfl) dX6_tearUnfinished_47 ⟨Nat.zero_le _, Nat.zero_le _⟩ (fun H locs hP hD hS => ?_)
      exact rt_v C hr hlk hP hD hS ((if_neg c_1).trans ((if_neg c_5).trans rfl)) dX6_tearUnfinished_50
set_option maxHeartbeats 4000000 in
set_option maxRecDepth 100000 in
theorem c_X6_power (l : Launch) (D : va_G) (cI cZ : ClassId) (ad : Nat → Nat) (u : cd_S) (x1 : Int32) (hz : ((u 1).1 4).toInt ≤ 64) : Ct_i l yX6_power wsX6_power ({ frames := 4, cells := 0, slots := 0, locals := 90 } : Room) D (ct_T cI cZ) [.ref (ad 0), .int x1] (w_6 cI cZ ad u) (fun u => (w_6 cI cZ ad u)) (f_X6_power u x1) := by
  refine en_i (cc := cX6_power) (maxL := 2) (ret := (some .int)) (own := RX6) (by decide +kernel) rfl rfl (Nat.le_of_ble_eq_true rfl) ?_
  intro p e s m args below meth c A ls C hr hlk hP hD hS hl
  have hx := C.1
  have hb := C.2.1
  have hl : lv_has ls 2 [(0, .ref (ad 0)), (1, .int x1)] := hl
  refine lv_iload_n hx hb dX6_power_0 rfl (lv_at hl 1 rfl) ?_
  refine lv_iconst (v := 0) hx hb dX6_power_1 (by decide) ?_
  refine lv_iconst (v := 1) hx hb dX6_power_2 (by decide) ?_
  refine ks_p C (c_X6_isOutside l D cI cZ x1 0 1 ) (va_cwS 3 C.2.2.2.2.1 gX6_power_X6_isOutside rfl rfl rfl hdX6_isOutside ⟨Nat.le_of_ble_eq_true rfl, Nat.le_of_ble_eq_true rfl⟩) hP hD hS rfl hl.1 rfl (Nat.le_of_ble_eq_true rfl) dX6_power_3 ⟨Nat.zero_le _, Nat.zero_le _⟩ (fun H locs hP hS => ?_)
  refine lv_if_eq (tgt := 11) hx hb dX6_power_6 (by decide) (fun c_1 => ?_) (fun c_1 => ?_)
  · refine lv_aload_n hx hb dX6_power_11 rfl (lv_at hl 0 rfl) ?_
    refine kv_p C (c_X6_isPowered l D cI cZ ad u  ) (cwV 0 C.2.2.2.2.1 gX6_power_X6_isPowered rfl rfl rfl hdX6_isPowered ⟨Nat.le_of_ble_eq_true rfl, Nat.le_of_ble_eq_true rfl⟩) (ci := 6) (q0 := 0) rfl rfl rfl hP hD hS (su_self _) rfl hl.1 rfl (Nat.le_of_ble_eq_true rfl) dX6_power_12 ⟨Nat.zero_le _, Nat.zero_le _⟩ (fun H locs hP hS => ?_)
    refine lv_iload_n hx hb dX6_power_15 rfl (lv_at hl 1 rfl) ?_
    refine lv_iconst (v := 1) hx hb dX6_power_16 (by decide) ?_
    refine jn_i (g := fun x => F0 m 25 ls (.int x :: [.int (f_X6_isPowered u)])) ((if x1 = 1 then 1 else 0)) (fun y_2 ey_2 => ?_) (fun J_2 => ?_)
    · refine lv_icmp_ne (tgt := 31) hx hb dX6_power_25 (by decide) (fun c_4 => ?_) (fun c_4 => ?_)
      · refine lv_iload_n hx hb dX6_power_31 rfl (lv_at hl 1 rfl) ?_
        refine lv_iconst (v := 1) hx hb dX6_power_32 (by decide) ?_
        refine lv_icmp_ne (tgt := 43) hx hb dX6_power_33 (by decide) (fun c_5 => ?_) (fun c_5 => ?_)
        · refine lv_aload_n hx hb dX6_power_43 rfl (lv_at hl 0 rfl) ?_
          refine kv_v C (c_X6_tearUnfinished l D cI cZ ad u  hz) (cwV 0 C.2.2.2.2.1 gX6_power_X6_tearUnfinished rfl rfl rfl hdX6_tearUnfinished ⟨Nat.le_of_ble_eq_true rfl, Nat.le_of_ble_eq_true rfl⟩) (ci := 6) (q0 := 0) rfl rfl rfl hP hD hS (sp_self (fun u => (w_6 cI cZ ad u)) 15 (fun _ => rfl)) rfl hl.1 rfl (Nat.le_of_ble_eq_true rfl) dX6_power_44 ⟨Nat.zero_le _, Nat.zero_le _⟩ (fun H locs hP hD hS => ?_)
          refine lv_aload_n hx hb dX6_power_47 rfl (lv_at hl 0 rfl) ?_
          refine kv_v C (c_X6_goDark l D cI cZ ad (f_X6_tearUnfinished u)  ) (cwV 0 C.2.2.2.2.1 gX6_power_X6_goDark rfl rfl rfl hdX6_goDark ⟨Nat.le_of_ble_eq_true rfl, Nat.le_of_ble_eq_true rfl⟩) (ci := 6) (q0 := 0) rfl rfl rfl hP hD hS (sp_self (fun u => (w_6 cI cZ ad u)) 15 (fun _ => rfl)) rfl hl.1 rfl (Nat.le_of_ble_eq_true rfl) dX6_power_48 ⟨Nat.zero_le _, Nat.zero_le _⟩ (fun H locs hP hD hS => ?_)
          refine lv_iconst (v := 1) hx hb dX6_power_51 (by decide) ?_
          subst ey_2
          exact rt_i C hr hlk hP hD hS ((if_pos c_1).trans ((if_neg c_4).trans ((if_neg c_5).trans rfl))) dX6_power_52
        · refine lv_aload_n hx hb dX6_power_36 rfl (lv_at hl 0 rfl) ?_
          refine kv_v C (c_X6_start l D cI cZ ad u  ) (cwV 0 C.2.2.2.2.1 gX6_power_X6_start rfl rfl rfl hdX6_start ⟨Nat.le_of_ble_eq_true rfl, Nat.le_of_ble_eq_true rfl⟩) (ci := 6) (q0 := 0) rfl rfl rfl hP hD hS (sp_self (fun u => (w_6 cI cZ ad u)) 15 (fun _ => rfl)) rfl hl.1 rfl (Nat.le_of_ble_eq_true rfl) dX6_power_37 ⟨Nat.zero_le _, Nat.zero_le _⟩ (fun H locs hP hD hS => ?_)
          refine lv_goto (tgt := 51) hx hb dX6_power_40 (by decide) ?_
          refine lv_iconst (v := 1) hx hb dX6_power_51 (by decide) ?_
          subst ey_2
          exact rt_i C hr hlk hP hD hS ((if_pos c_1).trans ((if_neg c_4).trans ((if_pos c_5).trans rfl))) dX6_power_52
      · refine lv_bipush (v := (-2)) hx hb dX6_power_28 (by decide) ?_
        subst ey_2
        exact rt_i C hr hlk hP hD hS ((if_pos c_1).trans ((if_pos c_4).trans rfl)) dX6_power_30
    · refine lv_icmp_ne (tgt := 24) hx hb dX6_power_17 (by decide) (fun c_3 => ?_) (fun c_3 => ?_)
      · refine lv_iconst (v := 0) hx hb dX6_power_24 (by decide) ?_
        exact J_2 _ ((if_neg c_3).trans rfl).symm
      · refine lv_iconst (v := 1) hx hb dX6_power_20 (by decide) ?_
        refine lv_goto (tgt := 25) hx hb dX6_power_21 (by decide) ?_
        exact J_2 _ ((if_pos c_3).trans rfl).symm
  · refine lv_iconst (v := (-1)) hx hb dX6_power_9 (by decide) ?_
    exact rt_i C hr hlk hP hD hS ((if_neg c_1).trans rfl) dX6_power_10
theorem ln_X6_warm_1 : Cond.fieldLink RX6 78 "BlockCard" "heat" "I" ∈ wsX6_warm := List.mem_of_getElem? (i := 1) rfl
theorem in_X6_warm_6 : ∀ w ∈ wsX60, w ∈ wsX6_warm := fun w h => List.mem_cons_of_mem _ (List.mem_append_right _ h)
set_option maxHeartbeats 4000000 in
set_option maxRecDepth 100000 in
theorem c_X6_warm (l : Launch) (D : va_G) (cI cZ : ClassId) (ad : Nat → Nat) (u : cd_S) (x1 : Int32)  : Ct_i l yX6_warm wsX6_warm ({ frames := 1, cells := 0, slots := 0, locals := 22 } : Room) D (ct_T cI cZ) [.ref (ad 0), .int x1] (w_6 cI cZ ad u) (fun u => (w_6 cI cZ ad u)) (f_X6_warm u x1) := by
  refine en_i (cc := cX6_warm) (maxL := 3) (ret := (some .int)) (own := RX6) (by decide +kernel) rfl rfl (Nat.le_of_ble_eq_true rfl) ?_
  intro p e s m args below meth c A ls C hr hlk hP hD hS hl
  have hx := C.1
  have hb := C.2.1
  have hl : lv_has ls 3 [(0, .ref (ad 0)), (1, .int x1)] := hl
  refine lv_iload_n hx hb dX6_warm_0 rfl (lv_at hl 1 rfl) ?_
  refine lv_iconst (v := 0) hx hb dX6_warm_1 (by decide) ?_
  refine lv_bipush (v := 15) hx hb dX6_warm_2 (by decide) ?_
  refine ks_p C (c_X6_isOutside l D cI cZ x1 0 15 ) (va_cwS 3 C.2.2.2.2.1 gX6_warm_X6_isOutside rfl rfl rfl hdX6_isOutside ⟨Nat.le_of_ble_eq_true rfl, Nat.le_of_ble_eq_true rfl⟩) hP hD hS rfl hl.1 rfl (Nat.le_of_ble_eq_true rfl) dX6_warm_4 ⟨Nat.zero_le _, Nat.zero_le _⟩ (fun H locs hP hS => ?_)
  refine lv_if_eq (tgt := 12) hx hb dX6_warm_7 (by decide) (fun c_1 => ?_) (fun c_1 => ?_)
  · refine lv_aload_n hx hb dX6_warm_12 rfl (lv_at hl 0 rfl) ?_
    refine gt6_11 C hP in_X6_warm_6 ln_X6_warm_1 (v := ((u 0).1 11)) rfl dX6_warm_13 ?_
    refine lv_istore_n (lv' := [(2, .int _), (0, .ref _), (1, .int _)]) hx hb dX6_warm_16 rfl hl (by decide) rfl (fun ls hl => ?_)
    refine lv_aload_n hx hb dX6_warm_17 rfl (lv_at hl 1 rfl) ?_
    refine lv_iload_n hx hb dX6_warm_18 rfl (lv_at hl 2 rfl) ?_
    refine pt6_11 C hP hD hS in_X6_warm_6 ln_X6_warm_1 dX6_warm_19 (fun H locs hP hD hS => ?_)
    refine lv_iload_n hx hb dX6_warm_22 rfl (lv_at hl 0 rfl) ?_
    exact rt_i C hr hlk hP hD hS ((if_pos c_1).trans rfl) dX6_warm_23
  · refine lv_iconst (v := (-1)) hx hb dX6_warm_10 (by decide) ?_
    exact rt_i C hr hlk hP hD hS ((if_neg c_1).trans rfl) dX6_warm_11
theorem ln_X6_write_1 : Cond.fieldLink RX6 21 "BlockCard" "text" "LBlockCard$Letters;" ∈ wsX6_write := List.mem_of_getElem? (i := 1) rfl
theorem in_X6_write_6 : ∀ w ∈ wsX60, w ∈ wsX6_write := fun w h => List.mem_cons_of_mem _ (List.mem_append_left _ (List.mem_append_right _ h))
set_option maxHeartbeats 4000000 in
set_option maxRecDepth 100000 in
theorem c_X6_write (l : Launch) (D : va_G) (cI cZ : ClassId) (ad : Nat → Nat) (u : cd_S) (x1 : Int32)  : Ct_i l yX6_write wsX6_write ({ frames := 1, cells := 0, slots := 0, locals := 22 } : Room) D (ct_T cI cZ) [.ref (ad 0), .int x1] (w_6 cI cZ ad u) (fun u => (w_6 cI cZ ad u)) (f_X6_write u x1) := by
  refine en_i (cc := cX6_write) (maxL := 2) (ret := (some .int)) (own := RX6) (by decide +kernel) rfl rfl (Nat.le_of_ble_eq_true rfl) ?_
  intro p e s m args below meth c A ls C hr hlk hP hD hS hl
  have hx := C.1
  have hb := C.2.1
  have hl : lv_has ls 2 [(0, .ref (ad 0)), (1, .int x1)] := hl
  refine lv_iload_n hx hb dX6_write_0 rfl (lv_at hl 1 rfl) ?_
  refine lv_bipush (v := 32) hx hb dX6_write_1 (by decide) ?_
  refine lv_bipush (v := 126) hx hb dX6_write_3 (by decide) ?_
  refine ks_p C (c_X6_isOutside l D cI cZ x1 32 126 ) (va_cwS 3 C.2.2.2.2.1 gX6_write_X6_isOutside rfl rfl rfl hdX6_isOutside ⟨Nat.le_of_ble_eq_true rfl, Nat.le_of_ble_eq_true rfl⟩) hP hD hS rfl hl.1 rfl (Nat.le_of_ble_eq_true rfl) dX6_write_5 ⟨Nat.zero_le _, Nat.zero_le _⟩ (fun H locs hP hS => ?_)
  refine lv_if_eq (tgt := 13) hx hb dX6_write_8 (by decide) (fun c_1 => ?_) (fun c_1 => ?_)
  · refine lv_aload_n hx hb dX6_write_13 rfl (lv_at hl 0 rfl) ?_
    refine gt6_1 C hP in_X6_write_6 ln_X6_write_1 dX6_write_14 ?_
    refine lv_iload_n hx hb dX6_write_17 rfl (lv_at hl 1 rfl) ?_
    refine kv_i C (c_X1_append l D cI cZ 200 (ad 5) (ad 6) (u 2) x1 (by decide)) (cwV 1 C.2.2.2.2.1 gX6_write_X1_append rfl rfl rfl hdX1_append ⟨Nat.le_of_ble_eq_true rfl, Nat.le_of_ble_eq_true rfl⟩) (ci := 1) (q0 := 0) rfl rfl rfl hP hD hS (sp_6_2 cI cZ ad u) rfl hl.1 rfl (Nat.le_of_ble_eq_true rfl) dX6_write_18 ⟨Nat.zero_le _, Nat.zero_le _⟩ (fun H locs hP hD hS => ?_)
    refine lv_if_ne (tgt := 27) hx hb dX6_write_21 (by decide) (fun c_3 => ?_) (fun c_3 => ?_)
    · refine lv_aload_n hx hb dX6_write_27 rfl (lv_at hl 0 rfl) ?_
      refine gt6_1 C hP in_X6_write_6 ln_X6_write_1 dX6_write_28 ?_
      refine kv_p C (c_X1_length l D cI cZ 200 (ad 5) (ad 6) (f_X1_append 200 (u 2) x1).2  ) (cwV 0 C.2.2.2.2.1 gX6_write_X1_length rfl rfl rfl hdX1_length ⟨Nat.le_of_ble_eq_true rfl, Nat.le_of_ble_eq_true rfl⟩) (ci := 1) (q0 := 0) rfl rfl rfl hP hD hS (su_6_2 cI cZ ad (va_up u 2 (f_X1_append 200 (u 2) x1).2)) rfl hl.1 rfl (Nat.le_of_ble_eq_true rfl) dX6_write_31 ⟨Nat.zero_le _, Nat.zero_le _⟩ (fun H locs hP hS => ?_)
      exact rt_i C hr hlk hP hD hS ((if_pos c_1).trans ((if_neg c_3).trans rfl)) dX6_write_34
    · refine lv_bipush (v := (-3)) hx hb dX6_write_24 (by decide) ?_
      exact rt_i C hr hlk hP hD hS ((if_pos c_1).trans ((if_pos c_3).trans rfl)) dX6_write_26
  · refine lv_iconst (v := (-1)) hx hb dX6_write_11 (by decide) ?_
    exact rt_i C hr hlk hP hD hS ((if_neg c_1).trans rfl) dX6_write_12
theorem ln_X6_wipe_1 : Cond.fieldLink RX6 21 "BlockCard" "text" "LBlockCard$Letters;" ∈ wsX6_wipe := List.mem_of_getElem? (i := 1) rfl
theorem in_X6_wipe_6 : ∀ w ∈ wsX60, w ∈ wsX6_wipe := fun w h => List.mem_cons_of_mem _ (List.mem_append_left _ (List.mem_append_right _ h))
set_option maxHeartbeats 4000000 in
set_option maxRecDepth 100000 in
theorem c_X6_wipe (l : Launch) (D : va_G) (cI cZ : ClassId) (ad : Nat → Nat) (u : cd_S)  : Ct_i l yX6_wipe wsX6_wipe ({ frames := 1, cells := 0, slots := 0, locals := 20 } : Room) D (ct_T cI cZ) [.ref (ad 0)] (w_6 cI cZ ad u) (fun u => (w_6 cI cZ ad u)) (f_X6_wipe u) := by
  refine en_i (cc := cX6_wipe) (maxL := 2) (ret := (some .int)) (own := RX6) (by decide +kernel) rfl rfl (Nat.le_of_ble_eq_true rfl) ?_
  intro p e s m args below meth c A ls C hr hlk hP hD hS hl
  have hx := C.1
  have hb := C.2.1
  have hl : lv_has ls 2 [(0, .ref (ad 0))] := hl
  refine lv_aload_n hx hb dX6_wipe_0 rfl (lv_at hl 0 rfl) ?_
  refine gt6_1 C hP in_X6_wipe_6 ln_X6_wipe_1 dX6_wipe_1 ?_
  refine kv_p C (c_X1_length l D cI cZ 200 (ad 5) (ad 6) (u 2)  ) (cwV 0 C.2.2.2.2.1 gX6_wipe_X1_length rfl rfl rfl hdX1_length ⟨Nat.le_of_ble_eq_true rfl, Nat.le_of_ble_eq_true rfl⟩) (ci := 1) (q0 := 0) rfl rfl rfl hP hD hS (su_6_2 cI cZ ad u) rfl hl.1 rfl (Nat.le_of_ble_eq_true rfl) dX6_wipe_4 ⟨Nat.zero_le _, Nat.zero_le _⟩ (fun H locs hP hS => ?_)
  refine lv_istore_n (lv' := [(1, .int _), (0, .ref _)]) hx hb dX6_wipe_7 rfl hl (by decide) rfl (fun ls hl => ?_)
  refine lv_aload_n hx hb dX6_wipe_8 rfl (lv_at hl 1 rfl) ?_
  refine gt6_1 C hP in_X6_wipe_6 ln_X6_wipe_1 dX6_wipe_9 ?_
  refine kv_v C (c_X1_empty l D cI cZ 200 (ad 5) (ad 6) (u 2)  ) (cwV 0 C.2.2.2.2.1 gX6_wipe_X1_empty rfl rfl rfl hdX1_empty ⟨Nat.le_of_ble_eq_true rfl, Nat.le_of_ble_eq_true rfl⟩) (ci := 1) (q0 := 0) rfl rfl rfl hP hD hS (sp_6_2 cI cZ ad u) rfl hl.1 rfl (Nat.le_of_ble_eq_true rfl) dX6_wipe_12 ⟨Nat.zero_le _, Nat.zero_le _⟩ (fun H locs hP hD hS => ?_)
  refine lv_iload_n hx hb dX6_wipe_15 rfl (lv_at hl 0 rfl) ?_
  exact rt_i C hr hlk hP hD hS rfl dX6_wipe_16
theorem ln_X6_isNoCommand_1 : Cond.constant RX6 64 (65535) ∈ wsX6_isNoCommand := List.mem_of_getElem? (i := 1) rfl
set_option maxHeartbeats 4000000 in
set_option maxRecDepth 100000 in
theorem c_X6_isNoCommand (l : Launch) (D : va_G) (cI cZ : ClassId)  (x0 : Int32) (x1 : Int32)  : Ct_p l yX6_isNoCommand wsX6_isNoCommand ({ frames := 1, cells := 0, slots := 0, locals := 22 } : Room) D (ct_T cI cZ) [.int x0, .int x1] [] (f_X6_isNoCommand x0 x1) := by
  refine en_p (cc := cX6_isNoCommand) (maxL := 2) (ret := (some .boolean)) (own := RX6) (by decide +kernel) rfl rfl (Nat.le_of_ble_eq_true rfl) ?_
  intro p e s m args below meth c A ls C hr hlk hP hD hS hl
  have hx := C.1
  have hb := C.2.1
  have hl : lv_has ls 2 [(0, .int x0), (1, .int x1)] := hl
  refine lv_iload_n hx hb dX6_isNoCommand_0 rfl (lv_at hl 0 rfl) ?_
  refine lv_iconst (v := 0) hx hb dX6_isNoCommand_1 (by decide) ?_
  refine lv_bipush (v := 63) hx hb dX6_isNoCommand_2 (by decide) ?_
  refine ks_p C (c_X6_isOutside l D cI cZ x0 0 63 ) (va_cwS 3 C.2.2.2.2.1 gX6_isNoCommand_X6_isOutside rfl rfl rfl hdX6_isOutside ⟨Nat.le_of_ble_eq_true rfl, Nat.le_of_ble_eq_true rfl⟩) hP hD hS rfl hl.1 rfl (Nat.le_of_ble_eq_true rfl) dX6_isNoCommand_4 ⟨Nat.zero_le _, Nat.zero_le _⟩ (fun H locs hP hS => ?_)
  refine lv_if_ne (tgt := 20) hx hb dX6_isNoCommand_7 (by decide) (fun c_1 => ?_) (fun c_1 => ?_)
  · refine lv_iconst (v := 1) hx hb dX6_isNoCommand_20 (by decide) ?_
    refine lv_goto (tgt := 25) hx hb dX6_isNoCommand_21 (by decide) ?_
    exact rt_q C hr hlk (Or.inr rfl) hS ((if_neg c_1).trans rfl) dX6_isNoCommand_25
  · refine lv_iload_n hx hb dX6_isNoCommand_10 rfl (lv_at hl 1 rfl) ?_
    refine lv_iconst (v := 0) hx hb dX6_isNoCommand_11 (by decide) ?_
    refine lv_ldc (v := 65535) hx hb C.2.2.2.1 (C.2.2.2.2.1 _ ln_X6_isNoCommand_1) dX6_isNoCommand_12 ?_
    refine ks_p C (c_X6_isOutside l D cI cZ x1 0 65535 ) (va_cwS 3 C.2.2.2.2.1 gX6_isNoCommand_X6_isOutside rfl rfl rfl hdX6_isOutside ⟨Nat.le_of_ble_eq_true rfl, Nat.le_of_ble_eq_true rfl⟩) hP hD hS rfl hl.1 rfl (Nat.le_of_ble_eq_true rfl) dX6_isNoCommand_14 ⟨Nat.zero_le _, Nat.zero_le _⟩ (fun H locs hP hS => ?_)
    refine lv_if_eq (tgt := 24) hx hb dX6_isNoCommand_17 (by decide) (fun c_2 => ?_) (fun c_2 => ?_)
    · refine lv_iconst (v := 0) hx hb dX6_isNoCommand_24 (by decide) ?_
      exact rt_q C hr hlk (Or.inl rfl) hS ((if_pos c_1).trans ((if_pos c_2).trans rfl)) dX6_isNoCommand_25
    · refine lv_iconst (v := 1) hx hb dX6_isNoCommand_20 (by decide) ?_
      refine lv_goto (tgt := 25) hx hb dX6_isNoCommand_21 (by decide) ?_
      exact rt_q C hr hlk (Or.inr rfl) hS ((if_pos c_1).trans ((if_neg c_2).trans rfl)) dX6_isNoCommand_25
set_option maxHeartbeats 4000000 in
set_option maxRecDepth 100000 in
theorem lp_X6_checkOfBits_6 {p : Program} {l : Launch} {e : Env} {s : State} {m : MethodId} {args : Array Value} {below : List Frame} {meth : Method} {c : Code} {D : va_G} {A : Nat → Prop} {cI cZ : ClassId} {x0 : Int32} {F : Int32} (C : cx_C p c cX6_checkOfBits 5 s m args wsX6_checkOfBits RX6 D (ct_T cI cZ) A) (hr : meth.sig.returnType = some .int) (hlk : meth.locks = false) (hD : va_D (fun _ => True) [])  : ∀ (n : Nat) (x2 : Int32) (x3 : Int32) (H : Heap) (locs : List Loc) (ls : Array Slot), x3.toInt + 1 < (n : Int) → -1 ≤ x3.toInt → F = k_X6_checkOfBits_6 x0 n x2 x3 → va_P D vwCl [] H → va_S A s.heap H locs → lv_has ls 5 [(0, .int x0), (2, .int x2), (3, .int x3)] → W p l e ({ frames := 0, cells := 0, slots := 0, locals := 0 } : Room) s m args below meth c H locs 0 0 (MQ below (ct_Qp D (ct_T cI cZ) F A) args s 0 0 A) (F0 m 6 ls []) := by
  have hx := C.1
  have hb := C.2.1
  intro n
  induction n with
  | zero =>
    intro x2 x3 H locs ls i0 i1
    exact absurd i0 (by omega)
  | succ n ih =>
    intro x2 x3 H locs ls i0 i1 hF hP hS hl
    refine lv_iload_n hx hb dX6_checkOfBits_6 rfl (lv_at hl 2 rfl) ?_
    refine lv_if_lt (tgt := 41) hx hb dX6_checkOfBits_7 (by decide) (fun c_1 => ?_) (fun c_1 => ?_)
    · refine lv_iload_n hx hb dX6_checkOfBits_41 rfl (lv_at hl 1 rfl) ?_
      exact rt_p C hr hlk hS (hF.trans ((if_pos c_1).trans rfl)) dX6_checkOfBits_42
    · refine lv_iload_n hx hb dX6_checkOfBits_10 rfl (lv_at hl 0 rfl) ?_
      refine lv_iload_n hx hb dX6_checkOfBits_11 rfl (lv_at hl 2 rfl) ?_
      refine lv_ishr hx hb dX6_checkOfBits_12 ?_
      refine lv_iconst (v := 1) hx hb dX6_checkOfBits_13 (by decide) ?_
      refine lv_iand hx hb dX6_checkOfBits_14 ?_
      refine lv_istore (lv' := [(4, .int _), (0, .int _), (2, .int _), (3, .int _)]) hx hb dX6_checkOfBits_15 hl (by decide) rfl (fun ls hl => ?_)
      refine lv_iload_n hx hb dX6_checkOfBits_17 rfl (lv_at hl 2 rfl) ?_
      refine lv_iconst (v := 1) hx hb dX6_checkOfBits_18 (by decide) ?_
      refine lv_ishl hx hb dX6_checkOfBits_19 ?_
      refine lv_bipush (v := 127) hx hb dX6_checkOfBits_20 (by decide) ?_
      refine lv_iand hx hb dX6_checkOfBits_22 ?_
      refine lv_bipush (v := 9) hx hb dX6_checkOfBits_23 (by decide) ?_
      refine lv_iload hx hb dX6_checkOfBits_25 (lv_at hl 0 rfl) ?_
      refine lv_iload_n hx hb dX6_checkOfBits_27 rfl (lv_at hl 2 rfl) ?_
      refine lv_bipush (v := 6) hx hb dX6_checkOfBits_28 (by decide) ?_
      refine lv_ishr hx hb dX6_checkOfBits_30 ?_
      refine lv_ixor hx hb dX6_checkOfBits_31 ?_
      refine lv_imul hx hb dX6_checkOfBits_32 ?_
      refine lv_ixor hx hb dX6_checkOfBits_33 ?_
      refine lv_istore_n (lv' := [(2, .int _), (4, .int _), (0, .int _), (3, .int _)]) hx hb dX6_checkOfBits_34 rfl hl (by decide) rfl (fun ls hl => ?_)
      refine lv_iinc (v := (x3 + (-1))) (lv' := [(3, .int _), (2, .int _), (4, .int _), (0, .int _)]) hx hb dX6_checkOfBits_35 hl (k := 3) rfl rfl (by decide) rfl (fun ls hl => ?_)
      refine lv_goto (tgt := 6) hx hb dX6_checkOfBits_38 (by decide) ?_
      exact ih (((x2 <<< ((1 : Int32) &&& 31)) &&& 127) ^^^ (9 * (((x0 >>> ((x3 : Int32) &&& 31)) &&& 1) ^^^ (x2 >>> ((6 : Int32) &&& 31))))) (x3 + (-1))   _ _ _ (by have h := nlt_k (n := 0) c_1 z_t; have h2 := dec_t h; omega) (by have h := nlt_k (n := 0) c_1 z_t; have h2 := dec_t h; omega) (hF.trans ((if_neg c_1).trans rfl)) hP hS (lv_sub hl [3, 1, 0] rfl)
set_option maxHeartbeats 4000000 in
set_option maxRecDepth 100000 in
theorem c_X6_checkOfBits (l : Launch) (D : va_G) (cI cZ : ClassId)  (x0 : Int32) (x1 : Int32) (hb1 : 0 ≤ x1.toInt ∧ x1.toInt ≤ 22) : Ct_p l yX6_checkOfBits wsX6_checkOfBits ({ frames := 0, cells := 0, slots := 0, locals := 0 } : Room) D (ct_T cI cZ) [.int x0, .int x1] [] (f_X6_checkOfBits x0 x1) := by
  refine en_p (cc := cX6_checkOfBits) (maxL := 5) (ret := (some .int)) (own := RX6) (by decide +kernel) rfl rfl (Nat.le_of_ble_eq_true rfl) ?_
  intro p e s m args below meth c A ls C hr hlk hP hD hS hl
  have hx := C.1
  have hb := C.2.1
  have hl : lv_has ls 5 [(0, .int x0), (1, .int x1)] := hl
  refine lv_iconst (v := 0) hx hb dX6_checkOfBits_0 (by decide) ?_
  refine lv_istore_n (lv' := [(2, .int _), (0, .int _), (1, .int _)]) hx hb dX6_checkOfBits_1 rfl hl (by decide) rfl (fun ls hl => ?_)
  refine lv_iload_n hx hb dX6_checkOfBits_2 rfl (lv_at hl 2 rfl) ?_
  refine lv_iconst (v := 1) hx hb dX6_checkOfBits_3 (by decide) ?_
  refine lv_isub hx hb dX6_checkOfBits_4 ?_
  refine lv_istore_n (lv' := [(3, .int _), (2, .int _), (0, .int _), (1, .int _)]) hx hb dX6_checkOfBits_5 rfl hl (by decide) rfl (fun ls hl => ?_)
  exact lp_X6_checkOfBits_6 C hr hlk hD  23 0 (x1 - 1) _ _ _ (by have h := sub1_t (x := x1) hb1.1; omega) (by have h := sub1_t (x := x1) hb1.1; omega) rfl hP hS (lv_sub hl [2, 1, 0] rfl)
theorem ln_X6_commandCheck_1 : Cond.constant RX6 225 (65536) ∈ wsX6_commandCheck := List.mem_of_getElem? (i := 1) rfl
set_option maxHeartbeats 4000000 in
set_option maxRecDepth 100000 in
theorem c_X6_commandCheck (l : Launch) (D : va_G) (cI cZ : ClassId)  (x0 : Int32) (x1 : Int32)  : Ct_p l yX6_commandCheck wsX6_commandCheck ({ frames := 1, cells := 0, slots := 0, locals := 24 } : Room) D (ct_T cI cZ) [.int x0, .int x1] [] (f_X6_commandCheck x0 x1) := by
  refine en_p (cc := cX6_commandCheck) (maxL := 2) (ret := (some .int)) (own := RX6) (by decide +kernel) rfl rfl (Nat.le_of_ble_eq_true rfl) ?_
  intro p e s m args below meth c A ls C hr hlk hP hD hS hl
  have hx := C.1
  have hb := C.2.1
  have hl : lv_has ls 2 [(0, .int x0), (1, .int x1)] := hl
  refine lv_ldc (v := 65536) hx hb C.2.2.2.1 (C.2.2.2.2.1 _ ln_X6_commandCheck_1) dX6_commandCheck_0 ?_
  refine lv_iload_n hx hb dX6_commandCheck_2 rfl (lv_at hl 0 rfl) ?_
  refine lv_imul hx hb dX6_commandCheck_3 ?_
  refine lv_iload_n hx hb dX6_commandCheck_4 rfl (lv_at hl 1 rfl) ?_
  refine lv_iadd hx hb dX6_commandCheck_5 ?_
  refine lv_bipush (v := 22) hx hb dX6_commandCheck_6 (by decide) ?_
  refine ks_p C (c_X6_checkOfBits l D cI cZ ((65536 * x0) + x1) 22 (by decide)) (va_cwS 2 C.2.2.2.2.1 gX6_commandCheck_X6_checkOfBits rfl rfl rfl hdX6_checkOfBits ⟨Nat.le_of_ble_eq_true rfl, Nat.le_of_ble_eq_true rfl⟩) hP hD hS rfl hl.1 rfl (Nat.le_of_ble_eq_true rfl) dX6_commandCheck_8 ⟨Nat.zero_le _, Nat.zero_le _⟩ (fun H locs hP hS => ?_)
  exact rt_p C hr hlk hS rfl dX6_commandCheck_11
set_option maxHeartbeats 4000000 in
set_option maxRecDepth 100000 in
theorem c_X6_check (l : Launch) (D : va_G) (cI cZ : ClassId) (ad : Nat → Nat) (u : cd_S) (x1 : Int32) (x2 : Int32)  : Ct_p l yX6_check wsX6_check ({ frames := 2, cells := 0, slots := 0, locals := 45 } : Room) D (ct_T cI cZ) [.ref (ad 0), .int x1, .int x2] (w_6 cI cZ ad u) (f_X6_check u x1 x2) := by
  refine en_p (cc := cX6_check) (maxL := 3) (ret := (some .int)) (own := RX6) (by decide +kernel) rfl rfl (Nat.le_of_ble_eq_true rfl) ?_
  intro p e s m args below meth c A ls C hr hlk hP hD hS hl
  have hx := C.1
  have hb := C.2.1
  have hl : lv_has ls 3 [(0, .ref (ad 0)), (1, .int x1), (2, .int x2)] := hl
  refine lv_iload_n hx hb dX6_check_0 rfl (lv_at hl 1 rfl) ?_
  refine lv_iload_n hx hb dX6_check_1 rfl (lv_at hl 2 rfl) ?_
  refine ks_p C (c_X6_isNoCommand l D cI cZ x1 x2 ) (va_cwS 2 C.2.2.2.2.1 gX6_check_X6_isNoCommand rfl rfl rfl hdX6_isNoCommand ⟨Nat.le_of_ble_eq_true rfl, Nat.le_of_ble_eq_true rfl⟩) hP hD hS rfl hl.1 rfl (Nat.le_of_ble_eq_true rfl) dX6_check_2 ⟨Nat.zero_le _, Nat.zero_le _⟩ (fun H locs hP hS => ?_)
  refine lv_if_eq (tgt := 10) hx hb dX6_check_5 (by decide) (fun c_1 => ?_) (fun c_1 => ?_)
  · refine lv_iload_n hx hb dX6_check_10 rfl (lv_at hl 1 rfl) ?_
    refine lv_iload_n hx hb dX6_check_11 rfl (lv_at hl 2 rfl) ?_
    refine ks_p C (c_X6_commandCheck l D cI cZ x1 x2 ) (va_cwS 2 C.2.2.2.2.1 gX6_check_X6_commandCheck rfl rfl rfl hdX6_commandCheck ⟨Nat.le_of_ble_eq_true rfl, Nat.le_of_ble_eq_true rfl⟩) hP hD hS rfl hl.1 rfl (Nat.le_of_ble_eq_true rfl) dX6_check_12 ⟨Nat.zero_le _, Nat.zero_le _⟩ (fun H locs hP hS => ?_)
    exact rt_p C hr hlk hS ((if_pos c_1).trans rfl) dX6_check_15
  · refine lv_iconst (v := (-1)) hx hb dX6_check_8 (by decide) ?_
    exact rt_p C hr hlk hS ((if_neg c_1).trans rfl) dX6_check_9
set_option maxHeartbeats 4000000 in
set_option maxRecDepth 100000 in
theorem c_X6_contentCheck (l : Launch) (D : va_G) (cI cZ : ClassId)  (x0 : Int32)  : Ct_p l yX6_contentCheck wsX6_contentCheck ({ frames := 1, cells := 0, slots := 0, locals := 24 } : Room) D (ct_T cI cZ) [.int x0] [] (f_X6_contentCheck x0) := by
  refine en_p (cc := cX6_contentCheck) (maxL := 1) (ret := (some .int)) (own := RX6) (by decide +kernel) rfl rfl (Nat.le_of_ble_eq_true rfl) ?_
  intro p e s m args below meth c A ls C hr hlk hP hD hS hl
  have hx := C.1
  have hb := C.2.1
  have hl : lv_has ls 1 [(0, .int x0)] := hl
  refine lv_iload_n hx hb dX6_contentCheck_0 rfl (lv_at hl 0 rfl) ?_
  refine lv_bipush (v := 16) hx hb dX6_contentCheck_1 (by decide) ?_
  refine ks_p C (c_X6_checkOfBits l D cI cZ x0 16 (by decide)) (va_cwS 2 C.2.2.2.2.1 gX6_contentCheck_X6_checkOfBits rfl rfl rfl hdX6_checkOfBits ⟨Nat.le_of_ble_eq_true rfl, Nat.le_of_ble_eq_true rfl⟩) hP hD hS rfl hl.1 rfl (Nat.le_of_ble_eq_true rfl) dX6_contentCheck_3 ⟨Nat.zero_le _, Nat.zero_le _⟩ (fun H locs hP hS => ?_)
  exact rt_p C hr hlk hS rfl dX6_contentCheck_6
theorem ln_X6_checkOf_1 : Cond.constant RX6 64 (65535) ∈ wsX6_checkOf := List.mem_of_getElem? (i := 1) rfl
set_option maxHeartbeats 4000000 in
set_option maxRecDepth 100000 in
theorem c_X6_checkOf (l : Launch) (D : va_G) (cI cZ : ClassId) (ad : Nat → Nat) (u : cd_S) (x1 : Int32)  : Ct_p l yX6_checkOf wsX6_checkOf ({ frames := 2, cells := 0, slots := 0, locals := 44 } : Room) D (ct_T cI cZ) [.ref (ad 0), .int x1] (w_6 cI cZ ad u) (f_X6_checkOf u x1) := by
  refine en_p (cc := cX6_checkOf) (maxL := 2) (ret := (some .int)) (own := RX6) (by decide +kernel) rfl rfl (Nat.le_of_ble_eq_true rfl) ?_
  intro p e s m args below meth c A ls C hr hlk hP hD hS hl
  have hx := C.1
  have hb := C.2.1
  have hl : lv_has ls 2 [(0, .ref (ad 0)), (1, .int x1)] := hl
  refine lv_iload_n hx hb dX6_checkOf_0 rfl (lv_at hl 1 rfl) ?_
  refine lv_iconst (v := 0) hx hb dX6_checkOf_1 (by decide) ?_
  refine lv_ldc (v := 65535) hx hb C.2.2.2.1 (C.2.2.2.2.1 _ ln_X6_checkOf_1) dX6_checkOf_2 ?_
  refine ks_p C (c_X6_isOutside l D cI cZ x1 0 65535 ) (va_cwS 3 C.2.2.2.2.1 gX6_checkOf_X6_isOutside rfl rfl rfl hdX6_isOutside ⟨Nat.le_of_ble_eq_true rfl, Nat.le_of_ble_eq_true rfl⟩) hP hD hS rfl hl.1 rfl (Nat.le_of_ble_eq_true rfl) dX6_checkOf_4 ⟨Nat.zero_le _, Nat.zero_le _⟩ (fun H locs hP hS => ?_)
  refine lv_if_eq (tgt := 12) hx hb dX6_checkOf_7 (by decide) (fun c_1 => ?_) (fun c_1 => ?_)
  · refine lv_iload_n hx hb dX6_checkOf_12 rfl (lv_at hl 1 rfl) ?_
    refine ks_p C (c_X6_contentCheck l D cI cZ x1 ) (va_cwS 1 C.2.2.2.2.1 gX6_checkOf_X6_contentCheck rfl rfl rfl hdX6_contentCheck ⟨Nat.le_of_ble_eq_true rfl, Nat.le_of_ble_eq_true rfl⟩) hP hD hS rfl hl.1 rfl (Nat.le_of_ble_eq_true rfl) dX6_checkOf_13 ⟨Nat.zero_le _, Nat.zero_le _⟩ (fun H locs hP hS => ?_)
    exact rt_p C hr hlk hS ((if_pos c_1).trans rfl) dX6_checkOf_16
  · refine lv_iconst (v := (-1)) hx hb dX6_checkOf_10 (by decide) ?_
    exact rt_p C hr hlk hS ((if_neg c_1).trans rfl) dX6_checkOf_11
theorem ln_X6_note_1 : Cond.fieldLink RX6 201 "BlockCard" "notes" "I" ∈ wsX6_note := List.mem_of_getElem? (i := 1) rfl
theorem in_X6_note_6 : ∀ w ∈ wsX60, w ∈ wsX6_note := fun w h => List.mem_cons_of_mem _ (List.mem_append_right _ h)
set_option maxHeartbeats 4000000 in
set_option maxRecDepth 100000 in
theorem c_X6_note (l : Launch) (D : va_G) (cI cZ : ClassId) (ad : Nat → Nat) (u : cd_S) (x1 : Int32)  : Ct_v l yX6_note wsX6_note ({ frames := 0, cells := 0, slots := 0, locals := 0 } : Room) D (ct_T cI cZ) [.ref (ad 0), .int x1] (w_6 cI cZ ad u) (fun u => (w_6 cI cZ ad u)) (f_X6_note u x1) := by
  refine en_v (cc := cX6_note) (maxL := 2) (ret := none) (own := RX6) (by decide +kernel) rfl rfl (Nat.le_of_ble_eq_true rfl) ?_
  intro p e s m args below meth c A ls C hr hlk hP hD hS hl
  have hx := C.1
  have hb := C.2.1
  have hl : lv_has ls 2 [(0, .ref (ad 0)), (1, .int x1)] := hl
  refine lv_aload_n hx hb dX6_note_0 rfl (lv_at hl 0 rfl) ?_
  refine lv_dup hx hb dX6_note_1 rfl ?_
  refine gt6_14 C hP in_X6_note_6 ln_X6_note_1 (v := ((u 0).1 14)) rfl dX6_note_2 ?_
  refine lv_iload_n hx hb dX6_note_5 rfl (lv_at hl 1 rfl) ?_
  refine lv_ior hx hb dX6_note_6 ?_
  refine pt6_14 C hP hD hS in_X6_note_6 ln_X6_note_1 dX6_note_7 (fun H locs hP hD hS => ?_)
  exact rt_v C hr hlk hP hD hS rfl dX6_note_10
set_option maxHeartbeats 4000000 in
set_option maxRecDepth 100000 in
theorem c_X6_isBarredByLock (l : Launch) (D : va_G) (cI cZ : ClassId)  (x0 : Int32)  : Ct_p l yX6_isBarredByLock wsX6_isBarredByLock ({ frames := 0, cells := 0, slots := 0, locals := 0 } : Room) D (ct_T cI cZ) [.int x0] [] (f_X6_isBarredByLock x0) := by
  refine en_p (cc := cX6_isBarredByLock) (maxL := 1) (ret := (some .boolean)) (own := RX6) (by decide +kernel) rfl rfl (Nat.le_of_ble_eq_true rfl) ?_
  intro p e s m args below meth c A ls C hr hlk hP hD hS hl
  have hx := C.1
  have hb := C.2.1
  have hl : lv_has ls 1 [(0, .int x0)] := hl
  refine lv_iload_n hx hb dX6_isBarredByLock_0 rfl (lv_at hl 0 rfl) ?_
  by_cases s_1 : x0 = 6
  · refine lv_tableIn (tgt := 148) hx hb dX6_isBarredByLock_1 (by rw [s_1]; decide) (by rw [s_1]; decide) (by rw [s_1]; rfl) (by decide) ?_
    refine lv_iconst (v := 1) hx hb dX6_isBarredByLock_148 (by decide) ?_
    exact rt_q C hr hlk (Or.inr rfl) hS ((if_pos s_1).trans rfl) dX6_isBarredByLock_149
  by_cases s_2 : x0 = 17
  · refine lv_tableIn (tgt := 148) hx hb dX6_isBarredByLock_1 (by rw [s_2]; decide) (by rw [s_2]; decide) (by rw [s_2]; rfl) (by decide) ?_
    refine lv_iconst (v := 1) hx hb dX6_isBarredByLock_148 (by decide) ?_
    exact rt_q C hr hlk (Or.inr rfl) hS ((if_neg s_1).trans ((if_pos s_2).trans rfl)) dX6_isBarredByLock_149
  by_cases s_3 : x0 = 18
  · refine lv_tableIn (tgt := 148) hx hb dX6_isBarredByLock_1 (by rw [s_3]; decide) (by rw [s_3]; decide) (by rw [s_3]; rfl) (by decide) ?_
    refine lv_iconst (v := 1) hx hb dX6_isBarredByLock_148 (by decide) ?_
    exact rt_q C hr hlk (Or.inr rfl) hS ((if_neg s_1).trans ((if_neg s_2).trans ((if_pos s_3).trans rfl))) dX6_isBarredByLock_149
  by_cases s_4 : x0 = 21
  · refine lv_tableIn (tgt := 148) hx hb dX6_isBarredByLock_1 (by rw [s_4]; decide) (by rw [s_4]; decide) (by rw [s_4]; rfl) (by decide) ?_
    refine lv_iconst (v := 1) hx hb dX6_isBarredByLock_148 (by decide) ?_
    exact rt_q C hr hlk (Or.inr rfl) hS ((if_neg s_1).trans ((if_neg s_2).trans ((if_neg s_3).trans ((if_pos s_4).trans rfl)))) dX6_isBarredByLock_149
  by_cases s_5 : x0 = 22
  · refine lv_tableIn (tgt := 148) hx hb dX6_isBarredByLock_1 (by rw [s_5]; decide) (by rw [s_5]; decide) (by rw [s_5]; rfl) (by decide) ?_
    refine lv_iconst (v := 1) hx hb dX6_isBarredByLock_148 (by decide) ?_
    exact rt_q C hr hlk (Or.inr rfl) hS ((if_neg s_1).trans ((if_neg s_2).trans ((if_neg s_3).trans ((if_neg s_4).trans ((if_pos s_5).trans rfl))))) dX6_isBarredByLock_149
  by_cases s_6 : x0 = 23
  · refine lv_tableIn (tgt := 148) hx hb dX6_isBarredByLock_1 (by rw [s_6]; decide) (by rw [s_6]; decide) (by rw [s_6]; rfl) (by decide) ?_
    refine lv_iconst (v := 1) hx hb dX6_isBarredByLock_148 (by decide) ?_
    exact rt_q C hr hlk (Or.inr rfl) hS ((if_neg s_1).trans ((if_neg s_2).trans ((if_neg s_3).trans ((if_neg s_4).trans ((if_neg s_5).trans ((if_pos s_6).trans rfl)))))) dX6_isBarredByLock_149
  by_cases s_7 : x0 = 24
  · refine lv_tableIn (tgt := 148) hx hb dX6_isBarredByLock_1 (by rw [s_7]; decide) (by rw [s_7]; decide) (by rw [s_7]; rfl) (by decide) ?_
    refine lv_iconst (v := 1) hx hb dX6_isBarredByLock_148 (by decide) ?_
    exact rt_q C hr hlk (Or.inr rfl) hS ((if_neg s_1).trans ((if_neg s_2).trans ((if_neg s_3).trans ((if_neg s_4).trans ((if_neg s_5).trans ((if_neg s_6).trans ((if_pos s_7).trans rfl))))))) dX6_isBarredByLock_149
  by_cases s_8 : x0 = 25
  · refine lv_tableIn (tgt := 148) hx hb dX6_isBarredByLock_1 (by rw [s_8]; decide) (by rw [s_8]; decide) (by rw [s_8]; rfl) (by decide) ?_
    refine lv_iconst (v := 1) hx hb dX6_isBarredByLock_148 (by decide) ?_
    exact rt_q C hr hlk (Or.inr rfl) hS ((if_neg s_1).trans ((if_neg s_2).trans ((if_neg s_3).trans ((if_neg s_4).trans ((if_neg s_5).trans ((if_neg s_6).trans ((if_neg s_7).trans ((if_pos s_8).trans rfl)))))))) dX6_isBarredByLock_149
  by_cases s_9 : x0 = 32
  · refine lv_tableIn (tgt := 148) hx hb dX6_isBarredByLock_1 (by rw [s_9]; decide) (by rw [s_9]; decide) (by rw [s_9]; rfl) (by decide) ?_
    refine lv_iconst (v := 1) hx hb dX6_isBarredByLock_148 (by decide) ?_
    exact rt_q C hr hlk (Or.inr rfl) hS ((if_neg s_1).trans ((if_neg s_2).trans ((if_neg s_3).trans ((if_neg s_4).trans ((if_neg s_5).trans ((if_neg s_6).trans ((if_neg s_7).trans ((if_neg s_8).trans ((if_pos s_9).trans rfl))))))))) dX6_isBarredByLock_149
  by_cases s_10 : x0 = 33
  · refine lv_tableIn (tgt := 148) hx hb dX6_isBarredByLock_1 (by rw [s_10]; decide) (by rw [s_10]; decide) (by rw [s_10]; rfl) (by decide) ?_
    refine lv_iconst (v := 1) hx hb dX6_isBarredByLock_148 (by decide) ?_
    exact rt_q C hr hlk (Or.inr rfl) hS ((if_neg s_1).trans ((if_neg s_2).trans ((if_neg s_3).trans ((if_neg s_4).trans ((if_neg s_5).trans ((if_neg s_6).trans ((if_neg s_7).trans ((if_neg s_8).trans ((if_neg s_9).trans ((if_pos s_10).trans rfl)))))))))) dX6_isBarredByLock_149
  by_cases s_11 : x0 = 38
  · refine lv_tableIn (tgt := 148) hx hb dX6_isBarredByLock_1 (by rw [s_11]; decide) (by rw [s_11]; decide) (by rw [s_11]; rfl) (by decide) ?_
    refine lv_iconst (v := 1) hx hb dX6_isBarredByLock_148 (by decide) ?_
    exact rt_q C hr hlk (Or.inr rfl) hS ((if_neg s_1).trans ((if_neg s_2).trans ((if_neg s_3).trans ((if_neg s_4).trans ((if_neg s_5).trans ((if_neg s_6).trans ((if_neg s_7).trans ((if_neg s_8).trans ((if_neg s_9).trans ((if_neg s_10).trans ((if_pos s_11).trans rfl))))))))))) dX6_isBarredByLock_149
  refine tb_any (tgt := 150) hx hb dX6_isBarredByLock_1 ?_ (by decide) ?_
  · have q0 := lv_neT s_1 (a := 6) rfl
    have q1 := lv_neT s_2 (a := 17) rfl
    have q2 := lv_neT s_3 (a := 18) rfl
    have q3 := lv_neT s_4 (a := 21) rfl
    have q4 := lv_neT s_5 (a := 22) rfl
    have q5 := lv_neT s_6 (a := 23) rfl
    have q6 := lv_neT s_7 (a := 24) rfl
    have q7 := lv_neT s_8 (a := 25) rfl
    have q8 := lv_neT s_9 (a := 32) rfl
    have q9 := lv_neT s_10 (a := 33) rfl
    have q10 := lv_neT s_11 (a := 38) rfl
    rcases (show x0.toInt = 7 ∨ x0.toInt = 8 ∨ x0.toInt = 9 ∨ x0.toInt = 10 ∨ x0.toInt = 11 ∨ x0.toInt = 12 ∨ x0.toInt = 13 ∨ x0.toInt = 14 ∨ x0.toInt = 15 ∨ x0.toInt = 16 ∨ x0.toInt = 19 ∨ x0.toInt = 20 ∨ x0.toInt = 26 ∨ x0.toInt = 27 ∨ x0.toInt = 28 ∨ x0.toInt = 29 ∨ x0.toInt = 30 ∨ x0.toInt = 31 ∨ x0.toInt = 34 ∨ x0.toInt = 35 ∨ x0.toInt = 36 ∨ x0.toInt = 37 ∨ (x0.toInt < 6 ∨ 38 < x0.toInt) by omega) with h | h | h | h | h | h | h | h | h | h | h | h | h | h | h | h | h | h | h | h | h | h | h
    · exact Or.inr ⟨by rw [h]; decide, by rw [h]; decide, by rw [h]; rfl⟩
    · exact Or.inr ⟨by rw [h]; decide, by rw [h]; decide, by rw [h]; rfl⟩
    · exact Or.inr ⟨by rw [h]; decide, by rw [h]; decide, by rw [h]; rfl⟩
    · exact Or.inr ⟨by rw [h]; decide, by rw [h]; decide, by rw [h]; rfl⟩
    · exact Or.inr ⟨by rw [h]; decide, by rw [h]; decide, by rw [h]; rfl⟩
    · exact Or.inr ⟨by rw [h]; decide, by rw [h]; decide, by rw [h]; rfl⟩
    · exact Or.inr ⟨by rw [h]; decide, by rw [h]; decide, by rw [h]; rfl⟩
    · exact Or.inr ⟨by rw [h]; decide, by rw [h]; decide, by rw [h]; rfl⟩
    · exact Or.inr ⟨by rw [h]; decide, by rw [h]; decide, by rw [h]; rfl⟩
    · exact Or.inr ⟨by rw [h]; decide, by rw [h]; decide, by rw [h]; rfl⟩
    · exact Or.inr ⟨by rw [h]; decide, by rw [h]; decide, by rw [h]; rfl⟩
    · exact Or.inr ⟨by rw [h]; decide, by rw [h]; decide, by rw [h]; rfl⟩
    · exact Or.inr ⟨by rw [h]; decide, by rw [h]; decide, by rw [h]; rfl⟩
    · exact Or.inr ⟨by rw [h]; decide, by rw [h]; decide, by rw [h]; rfl⟩
    · exact Or.inr ⟨by rw [h]; decide, by rw [h]; decide, by rw [h]; rfl⟩
    · exact Or.inr ⟨by rw [h]; decide, by rw [h]; decide, by rw [h]; rfl⟩
    · exact Or.inr ⟨by rw [h]; decide, by rw [h]; decide, by rw [h]; rfl⟩
    · exact Or.inr ⟨by rw [h]; decide, by rw [h]; decide, by rw [h]; rfl⟩
    · exact Or.inr ⟨by rw [h]; decide, by rw [h]; decide, by rw [h]; rfl⟩
    · exact Or.inr ⟨by rw [h]; decide, by rw [h]; decide, by rw [h]; rfl⟩
    · exact Or.inr ⟨by rw [h]; decide, by rw [h]; decide, by rw [h]; rfl⟩
    · exact Or.inr ⟨by rw [h]; decide, by rw [h]; decide, by rw [h]; rfl⟩
    · exact Or.inl h
  · refine lv_iconst (v := 0) hx hb dX6_isBarredByLock_150 (by decide) ?_
    exact rt_q C hr hlk (Or.inl rfl) hS ((if_neg s_1).trans ((if_neg s_2).trans ((if_neg s_3).trans ((if_neg s_4).trans ((if_neg s_5).trans ((if_neg s_6).trans ((if_neg s_7).trans ((if_neg s_8).trans ((if_neg s_9).trans ((if_neg s_10).trans ((if_neg s_11).trans rfl))))))))))) dX6_isBarredByLock_151
set_option maxHeartbeats 4000000 in
set_option maxRecDepth 100000 in
theorem c_X6_statesOf (l : Launch) (D : va_G) (cI cZ : ClassId)  (x0 : Int32)  : Ct_p l yX6_statesOf wsX6_statesOf ({ frames := 1, cells := 0, slots := 0, locals := 20 } : Room) D (ct_T cI cZ) [.int x0] [] (f_X6_statesOf x0) := by
  refine en_p (cc := cX6_statesOf) (maxL := 1) (ret := (some .int)) (own := RX6) (by decide +kernel) rfl rfl (Nat.le_of_ble_eq_true rfl) ?_
  intro p e s m args below meth c A ls C hr hlk hP hD hS hl
  have hx := C.1
  have hb := C.2.1
  have hl : lv_has ls 1 [(0, .int x0)] := hl
  refine lv_iload_n hx hb dX6_statesOf_0 rfl (lv_at hl 0 rfl) ?_
  by_cases s_1 : x0 = 0
  · refine lv_lookup (off := 75) (tgt := 76) hx hb dX6_statesOf_1 (by decide) (by rw [s_1] <;> rfl) (by decide) ?_
    refine lv_sipush (v := 255) hx hb dX6_statesOf_76 (by decide) ?_
    exact rt_p C hr hlk hS ((if_pos s_1).trans rfl) dX6_statesOf_79
  by_cases s_2 : x0 = 1
  · refine lv_lookup (off := 79) (tgt := 80) hx hb dX6_statesOf_1 (by decide) (by rw [s_2] <;> rfl) (by decide) ?_
    refine lv_iconst (v := 1) hx hb dX6_statesOf_80 (by decide) ?_
    exact rt_p C hr hlk hS ((if_neg s_1).trans ((if_pos s_2).trans rfl)) dX6_statesOf_81
  by_cases s_3 : x0 = 2
  · refine lv_lookup (off := 81) (tgt := 82) hx hb dX6_statesOf_1 (by decide) (by rw [s_3] <;> rfl) (by decide) ?_
    refine lv_iconst (v := 2) hx hb dX6_statesOf_82 (by decide) ?_
    exact rt_p C hr hlk hS ((if_neg s_1).trans ((if_neg s_2).trans ((if_pos s_3).trans rfl))) dX6_statesOf_83
  by_cases s_4 : x0 = 3
  · refine lv_lookup (off := 83) (tgt := 84) hx hb dX6_statesOf_1 (by decide) (by rw [s_4] <;> rfl) (by decide) ?_
    refine lv_bipush (v := 12) hx hb dX6_statesOf_84 (by decide) ?_
    exact rt_p C hr hlk hS ((if_neg s_1).trans ((if_neg s_2).trans ((if_neg s_3).trans ((if_pos s_4).trans rfl)))) dX6_statesOf_86
  by_cases s_5 : x0 = 7
  · refine lv_lookup (off := 86) (tgt := 87) hx hb dX6_statesOf_1 (by decide) (by rw [s_5] <;> rfl) (by decide) ?_
    refine lv_bipush (v := 24) hx hb dX6_statesOf_87 (by decide) ?_
    exact rt_p C hr hlk hS ((if_neg s_1).trans ((if_neg s_2).trans ((if_neg s_3).trans ((if_neg s_4).trans ((if_pos s_5).trans rfl))))) dX6_statesOf_89
  by_cases s_6 : x0 = 12
  · refine lv_lookup (off := 93) (tgt := 94) hx hb dX6_statesOf_1 (by decide) (by rw [s_6] <;> rfl) (by decide) ?_
    refine lv_bipush (v := 96) hx hb dX6_statesOf_94 (by decide) ?_
    exact rt_p C hr hlk hS ((if_neg s_1).trans ((if_neg s_2).trans ((if_neg s_3).trans ((if_neg s_4).trans ((if_neg s_5).trans ((if_pos s_6).trans rfl)))))) dX6_statesOf_96
  by_cases s_7 : x0 = 13
  · refine lv_lookup (off := 89) (tgt := 90) hx hb dX6_statesOf_1 (by decide) (by rw [s_7] <;> rfl) (by decide) ?_
    refine lv_sipush (v := 248) hx hb dX6_statesOf_90 (by decide) ?_
    exact rt_p C hr hlk hS ((if_neg s_1).trans ((if_neg s_2).trans ((if_neg s_3).trans ((if_neg s_4).trans ((if_neg s_5).trans ((if_neg s_6).trans ((if_pos s_7).trans rfl))))))) dX6_statesOf_93
  by_cases s_8 : x0 = 42
  · refine lv_lookup (off := 96) (tgt := 97) hx hb dX6_statesOf_1 (by decide) (by rw [s_8] <;> rfl) (by decide) ?_
    refine lv_bipush (v := 16) hx hb dX6_statesOf_97 (by decide) ?_
    exact rt_p C hr hlk hS ((if_neg s_1).trans ((if_neg s_2).trans ((if_neg s_3).trans ((if_neg s_4).trans ((if_neg s_5).trans ((if_neg s_6).trans ((if_neg s_7).trans ((if_pos s_8).trans rfl)))))))) dX6_statesOf_99
  refine lv_lookup (off := 99) (tgt := 100) hx hb dX6_statesOf_1 (by decide) (by rw [lv_osw s_1 (a := 0) rfl, lv_osw s_2 (a := 1) rfl, lv_osw s_3 (a := 2) rfl, lv_osw s_4 (a := 3) rfl, lv_osw s_5 (a := 7) rfl, lv_osw s_6 (a := 12) rfl, lv_osw s_7 (a := 13) rfl, lv_osw s_8 (a := 42) rfl] <;> rfl) (by decide) ?_
  refine lv_iload_n hx hb dX6_statesOf_100 rfl (lv_at hl 0 rfl) ?_
  refine ks_p C (c_X6_isBarredByLock l D cI cZ x0 ) (va_cwS 1 C.2.2.2.2.1 gX6_statesOf_X6_isBarredByLock rfl rfl rfl hdX6_isBarredByLock ⟨Nat.le_of_ble_eq_true rfl, Nat.le_of_ble_eq_true rfl⟩) hP hD hS rfl hl.1 rfl (Nat.le_of_ble_eq_true rfl) dX6_statesOf_101 ⟨Nat.zero_le _, Nat.zero_le _⟩ (fun H locs hP hS => ?_)
  refine lv_if_eq (tgt := 112) hx hb dX6_statesOf_104 (by decide) (fun c_9 => ?_) (fun c_9 => ?_)
  · refine lv_iconst (v := 0) hx hb dX6_statesOf_112 (by decide) ?_
    exact rt_p C hr hlk hS ((if_neg s_1).trans ((if_neg s_2).trans ((if_neg s_3).trans ((if_neg s_4).trans ((if_neg s_5).trans ((if_neg s_6).trans ((if_neg s_7).trans ((if_neg s_8).trans ((if_pos c_9).trans rfl))))))))) dX6_statesOf_113
  · refine lv_bipush (v := 16) hx hb dX6_statesOf_107 (by decide) ?_
    refine lv_goto (tgt := 113) hx hb dX6_statesOf_109 (by decide) ?_
    exact rt_p C hr hlk hS ((if_neg s_1).trans ((if_neg s_2).trans ((if_neg s_3).trans ((if_neg s_4).trans ((if_neg s_5).trans ((if_neg s_6).trans ((if_neg s_7).trans ((if_neg s_8).trans ((if_neg c_9).trans rfl))))))))) dX6_statesOf_113
theorem ln_X6_isOpenTo_1 : Cond.fieldLink RX6 197 "BlockCard" "locked" "Z" ∈ wsX6_isOpenTo := List.mem_of_getElem? (i := 1) rfl
theorem in_X6_isOpenTo_6 : ∀ w ∈ wsX60, w ∈ wsX6_isOpenTo := fun w h => List.mem_cons_of_mem _ (List.mem_append_right _ h)
theorem ln_X6_isOpenTo_2 : Cond.fieldLink RX6 111 "BlockCard" "state" "I" ∈ wsX6_isOpenTo := List.mem_of_getElem? (i := 2) rfl
set_option maxHeartbeats 4000000 in
set_option maxRecDepth 100000 in
theorem c_X6_isOpenTo (l : Launch) (D : va_G) (cI cZ : ClassId) (ad : Nat → Nat) (u : cd_S) (x1 : Int32)  : Ct_p l yX6_isOpenTo wsX6_isOpenTo ({ frames := 2, cells := 0, slots := 0, locals := 40 } : Room) D (ct_T cI cZ) [.ref (ad 0), .int x1] (w_6 cI cZ ad u) (f_X6_isOpenTo u x1) := by
  refine en_p (cc := cX6_isOpenTo) (maxL := 2) (ret := (some .boolean)) (own := RX6) (by decide +kernel) rfl rfl (Nat.le_of_ble_eq_true rfl) ?_
  intro p e s m args below meth c A ls C hr hlk hP hD hS hl
  have hx := C.1
  have hb := C.2.1
  have hl : lv_has ls 2 [(0, .ref (ad 0)), (1, .int x1)] := hl
  refine lv_aload_n hx hb dX6_isOpenTo_0 rfl (lv_at hl 0 rfl) ?_
  refine gt6_16 C hP in_X6_isOpenTo_6 ln_X6_isOpenTo_1 (v := ((u 0).1 16)) rfl dX6_isOpenTo_1 ?_
  refine lv_if_eq (tgt := 16) hx hb dX6_isOpenTo_4 (by decide) (fun c_1 => ?_) (fun c_1 => ?_)
  · refine lv_iload_n hx hb dX6_isOpenTo_16 rfl (lv_at hl 1 rfl) ?_
    refine ks_p C (c_X6_statesOf l D cI cZ x1 ) (va_cwS 1 C.2.2.2.2.1 gX6_isOpenTo_X6_statesOf rfl rfl rfl hdX6_statesOf ⟨Nat.le_of_ble_eq_true rfl, Nat.le_of_ble_eq_true rfl⟩) hP hD hS rfl hl.1 rfl (Nat.le_of_ble_eq_true rfl) dX6_isOpenTo_17 ⟨Nat.zero_le _, Nat.zero_le _⟩ (fun H locs hP hS => ?_)
    refine lv_aload_n hx hb dX6_isOpenTo_20 rfl (lv_at hl 0 rfl) ?_
    refine gt6_12 C hP in_X6_isOpenTo_6 ln_X6_isOpenTo_2 (v := ((u 0).1 12)) rfl dX6_isOpenTo_21 ?_
    refine lv_ishr hx hb dX6_isOpenTo_24 ?_
    refine lv_iconst (v := 1) hx hb dX6_isOpenTo_25 (by decide) ?_
    refine lv_iand hx hb dX6_isOpenTo_26 ?_
    refine lv_iconst (v := 1) hx hb dX6_isOpenTo_27 (by decide) ?_
    refine lv_icmp_ne (tgt := 35) hx hb dX6_isOpenTo_28 (by decide) (fun c_2 => ?_) (fun c_2 => ?_)
    · refine lv_iconst (v := 0) hx hb dX6_isOpenTo_35 (by decide) ?_
      exact rt_q C hr hlk (Or.inl rfl) hS ((if_pos c_1).trans ((if_neg c_2).trans rfl)) dX6_isOpenTo_36
    · refine lv_iconst (v := 1) hx hb dX6_isOpenTo_31 (by decide) ?_
      refine lv_goto (tgt := 36) hx hb dX6_isOpenTo_32 (by decide) ?_
      exact rt_q C hr hlk (Or.inr rfl) hS ((if_pos c_1).trans ((if_pos c_2).trans rfl)) dX6_isOpenTo_36
  · refine lv_iload_n hx hb dX6_isOpenTo_7 rfl (lv_at hl 1 rfl) ?_
    refine ks_p C (c_X6_isBarredByLock l D cI cZ x1 ) (va_cwS 1 C.2.2.2.2.1 gX6_isOpenTo_X6_isBarredByLock rfl rfl rfl hdX6_isBarredByLock ⟨Nat.le_of_ble_eq_true rfl, Nat.le_of_ble_eq_true rfl⟩) hP hD hS rfl hl.1 rfl (Nat.le_of_ble_eq_true rfl) dX6_isOpenTo_8 ⟨Nat.zero_le _, Nat.zero_le _⟩ (fun H locs hP hS => ?_)
    refine lv_if_eq (tgt := 16) hx hb dX6_isOpenTo_11 (by decide) (fun c_3 => ?_) (fun c_3 => ?_)
    · refine lv_iload_n hx hb dX6_isOpenTo_16 rfl (lv_at hl 1 rfl) ?_
      refine ks_p C (c_X6_statesOf l D cI cZ x1 ) (va_cwS 1 C.2.2.2.2.1 gX6_isOpenTo_X6_statesOf rfl rfl rfl hdX6_statesOf ⟨Nat.le_of_ble_eq_true rfl, Nat.le_of_ble_eq_true rfl⟩) hP hD hS rfl hl.1 rfl (Nat.le_of_ble_eq_true rfl) dX6_isOpenTo_17 ⟨Nat.zero_le _, Nat.zero_le _⟩ (fun H locs hP hS => ?_)
      refine lv_aload_n hx hb dX6_isOpenTo_20 rfl (lv_at hl 0 rfl) ?_
      refine gt6_12 C hP in_X6_isOpenTo_6 ln_X6_isOpenTo_2 (v := ((u 0).1 12)) rfl dX6_isOpenTo_21 ?_
      refine lv_ishr hx hb dX6_isOpenTo_24 ?_
      refine lv_iconst (v := 1) hx hb dX6_isOpenTo_25 (by decide) ?_
      refine lv_iand hx hb dX6_isOpenTo_26 ?_
      refine lv_iconst (v := 1) hx hb dX6_isOpenTo_27 (by decide) ?_
      refine lv_icmp_ne (tgt := 35) hx hb dX6_isOpenTo_28 (by decide) (fun c_4 => ?_) (fun c_4 => ?_)
      · refine lv_iconst (v := 0) hx hb dX6_isOpenTo_35 (by decide) ?_
        exact rt_q C hr hlk (Or.inl rfl) hS ((if_neg c_1).trans ((if_pos c_3).trans ((if_neg c_4).trans rfl))) dX6_isOpenTo_36
      · refine lv_iconst (v := 1) hx hb dX6_isOpenTo_31 (by decide) ?_
        refine lv_goto (tgt := 36) hx hb dX6_isOpenTo_32 (by decide) ?_
        exact rt_q C hr hlk (Or.inr rfl) hS ((if_neg c_1).trans ((if_pos c_3).trans ((if_pos c_4).trans rfl))) dX6_isOpenTo_36
    · refine lv_iconst (v := 0) hx hb dX6_isOpenTo_14 (by decide) ?_
      exact rt_q C hr hlk (Or.inl rfl) hS ((if_neg c_1).trans ((if_neg c_3).trans rfl)) dX6_isOpenTo_15
set_option maxHeartbeats 4000000 in
set_option maxRecDepth 100000 in
theorem c_X6_reset (l : Launch) (D : va_G) (cI cZ : ClassId) (ad : Nat → Nat) (u : cd_S) (hz : ((u 1).1 4).toInt ≤ 64) : Ct_i l yX6_reset wsX6_reset ({ frames := 4, cells := 0, slots := 0, locals := 90 } : Room) D (ct_T cI cZ) [.ref (ad 0)] (w_6 cI cZ ad u) (fun u => (w_6 cI cZ ad u)) (f_X6_reset u) := by
  refine en_i (cc := cX6_reset) (maxL := 1) (ret := (some .int)) (own := RX6) (by decide +kernel) rfl rfl (Nat.le_of_ble_eq_true rfl) ?_
  intro p e s m args below meth c A ls C hr hlk hP hD hS hl
  have hx := C.1
  have hb := C.2.1
  have hl : lv_has ls 1 [(0, .ref (ad 0))] := hl
  refine lv_aload_n hx hb dX6_reset_0 rfl (lv_at hl 0 rfl) ?_
  refine kv_v C (c_X6_tearUnfinished l D cI cZ ad u  hz) (cwV 0 C.2.2.2.2.1 gX6_reset_X6_tearUnfinished rfl rfl rfl hdX6_tearUnfinished ⟨Nat.le_of_ble_eq_true rfl, Nat.le_of_ble_eq_true rfl⟩) (ci := 6) (q0 := 0) rfl rfl rfl hP hD hS (sp_self (fun u => (w_6 cI cZ ad u)) 15 (fun _ => rfl)) rfl hl.1 rfl (Nat.le_of_ble_eq_true rfl) dX6_reset_1 ⟨Nat.zero_le _, Nat.zero_le _⟩ (fun H locs hP hD hS => ?_)
  refine lv_aload_n hx hb dX6_reset_4 rfl (lv_at hl 0 rfl) ?_
  refine kv_v C (c_X6_start l D cI cZ ad (f_X6_tearUnfinished u)  ) (cwV 0 C.2.2.2.2.1 gX6_reset_X6_start rfl rfl rfl hdX6_start ⟨Nat.le_of_ble_eq_true rfl, Nat.le_of_ble_eq_true rfl⟩) (ci := 6) (q0 := 0) rfl rfl rfl hP hD hS (sp_self (fun u => (w_6 cI cZ ad u)) 15 (fun _ => rfl)) rfl hl.1 rfl (Nat.le_of_ble_eq_true rfl) dX6_reset_5 ⟨Nat.zero_le _, Nat.zero_le _⟩ (fun H locs hP hD hS => ?_)
  refine lv_iconst (v := 0) hx hb dX6_reset_8 (by decide) ?_
  exact rt_i C hr hlk hP hD hS rfl dX6_reset_9
theorem ln_X6_wake_1 : Cond.fieldLink RX6 244 "BlockCard" "woken" "I" ∈ wsX6_wake := List.mem_of_getElem? (i := 1) rfl
theorem in_X6_wake_6 : ∀ w ∈ wsX60, w ∈ wsX6_wake := fun w h => List.mem_cons_of_mem _ (List.mem_append_right _ h)
theorem ln_X6_wake_2 : Cond.fieldLink RX6 235 "BlockCard" "idleness" "I" ∈ wsX6_wake := List.mem_of_getElem? (i := 2) rfl
theorem ln_X6_wake_3 : Cond.fieldLink RX6 111 "BlockCard" "state" "I" ∈ wsX6_wake := List.mem_of_getElem? (i := 3) rfl
set_option maxHeartbeats 4000000 in
set_option maxRecDepth 100000 in
theorem c_X6_wake (l : Launch) (D : va_G) (cI cZ : ClassId) (ad : Nat → Nat) (u : cd_S)  : Ct_i l yX6_wake wsX6_wake ({ frames := 0, cells := 0, slots := 0, locals := 0 } : Room) D (ct_T cI cZ) [.ref (ad 0)] (w_6 cI cZ ad u) (fun u => (w_6 cI cZ ad u)) (f_X6_wake u) := by
  refine en_i (cc := cX6_wake) (maxL := 1) (ret := (some .int)) (own := RX6) (by decide +kernel) rfl rfl (Nat.le_of_ble_eq_true rfl) ?_
  intro p e s m args below meth c A ls C hr hlk hP hD hS hl
  have hx := C.1
  have hb := C.2.1
  have hl : lv_has ls 1 [(0, .ref (ad 0))] := hl
  refine lv_aload_n hx hb dX6_wake_0 rfl (lv_at hl 0 rfl) ?_
  refine lv_dup hx hb dX6_wake_1 rfl ?_
  refine gt6_15 C hP in_X6_wake_6 ln_X6_wake_1 (v := ((u 0).1 15)) rfl dX6_wake_2 ?_
  refine lv_iconst (v := 1) hx hb dX6_wake_5 (by decide) ?_
  refine lv_iadd hx hb dX6_wake_6 ?_
  refine pt6_15 C hP hD hS in_X6_wake_6 ln_X6_wake_1 dX6_wake_7 (fun H locs hP hD hS => ?_)
  refine lv_aload_n hx hb dX6_wake_10 rfl (lv_at hl 0 rfl) ?_
  refine gt6_15 C hP in_X6_wake_6 ln_X6_wake_1 (v := (((u 0).1 15) + 1)) rfl dX6_wake_11 ?_
  refine lv_aload_n hx hb dX6_wake_14 rfl (lv_at hl 0 rfl) ?_
  refine gt6_7 C hP in_X6_wake_6 ln_X6_wake_2 (v := ((u 0).1 7)) rfl dX6_wake_15 ?_
  refine lv_icmp_gt (tgt := 23) hx hb dX6_wake_18 (by decide) (fun c_1 => ?_) (fun c_1 => ?_)
  · refine lv_aload_n hx hb dX6_wake_23 rfl (lv_at hl 0 rfl) ?_
    refine lv_iconst (v := 1) hx hb dX6_wake_24 (by decide) ?_
    refine pt6_12 C hP hD hS in_X6_wake_6 ln_X6_wake_3 dX6_wake_25 (fun H locs hP hD hS => ?_)
    refine lv_iconst (v := 1) hx hb dX6_wake_28 (by decide) ?_
    exact rt_i C hr hlk hP hD hS ((if_pos c_1).trans rfl) dX6_wake_29
  · refine lv_iconst (v := 0) hx hb dX6_wake_21 (by decide) ?_
    exact rt_i C hr hlk hP hD hS ((if_neg c_1).trans rfl) dX6_wake_22
theorem ln_X6_tellNumber_1 : Cond.fieldLink RX6 111 "BlockCard" "state" "I" ∈ wsX6_tellNumber := List.mem_of_getElem? (i := 1) rfl
theorem in_X6_tellNumber_6 : ∀ w ∈ wsX60, w ∈ wsX6_tellNumber := fun w h => List.mem_cons_of_mem _ (List.mem_append_right _ h)
theorem ln_X6_tellNumber_2 : Cond.fieldLink RX6 238 "BlockCard" "number" "I" ∈ wsX6_tellNumber := List.mem_of_getElem? (i := 2) rfl
set_option maxHeartbeats 4000000 in
set_option maxRecDepth 100000 in
theorem c_X6_tellNumber (l : Launch) (D : va_G) (cI cZ : ClassId) (ad : Nat → Nat) (u : cd_S)  : Ct_i l yX6_tellNumber wsX6_tellNumber ({ frames := 0, cells := 0, slots := 0, locals := 0 } : Room) D (ct_T cI cZ) [.ref (ad 0)] (w_6 cI cZ ad u) (fun u => (w_6 cI cZ ad u)) (f_X6_tellNumber u) := by
  refine en_i (cc := cX6_tellNumber) (maxL := 1) (ret := (some .int)) (own := RX6) (by decide +kernel) rfl rfl (Nat.le_of_ble_eq_true rfl) ?_
  intro p e s m args below meth c A ls C hr hlk hP hD hS hl
  have hx := C.1
  have hb := C.2.1
  have hl : lv_has ls 1 [(0, .ref (ad 0))] := hl
  refine lv_aload_n hx hb dX6_tellNumber_0 rfl (lv_at hl 0 rfl) ?_
  refine lv_iconst (v := 2) hx hb dX6_tellNumber_1 (by decide) ?_
  refine pt6_12 C hP hD hS in_X6_tellNumber_6 ln_X6_tellNumber_1 dX6_tellNumber_2 (fun H locs hP hD hS => ?_)
  refine lv_aload_n hx hb dX6_tellNumber_5 rfl (lv_at hl 0 rfl) ?_
  refine gt6_8 C hP in_X6_tellNumber_6 ln_X6_tellNumber_2 (v := ((u 0).1 8)) rfl dX6_tellNumber_6 ?_
  exact rt_i C hr hlk hP hD hS rfl dX6_tellNumber_9
theorem ln_X6_takeAddress_1 : Cond.fieldLink RX6 185 "BlockCard" "address" "I" ∈ wsX6_takeAddress := List.mem_of_getElem? (i := 1) rfl
theorem in_X6_takeAddress_6 : ∀ w ∈ wsX60, w ∈ wsX6_takeAddress := fun w h => List.mem_cons_of_mem _ (List.mem_append_right _ h)
theorem ln_X6_takeAddress_2 : Cond.fieldLink RX6 111 "BlockCard" "state" "I" ∈ wsX6_takeAddress := List.mem_of_getElem? (i := 2) rfl
set_option maxHeartbeats 4000000 in
set_option maxRecDepth 100000 in
theorem c_X6_takeAddress (l : Launch) (D : va_G) (cI cZ : ClassId) (ad : Nat → Nat) (u : cd_S)  : Ct_i l yX6_takeAddress wsX6_takeAddress ({ frames := 0, cells := 0, slots := 0, locals := 0 } : Room) D (ct_T cI cZ) [.ref (ad 0)] (w_6 cI cZ ad u) (fun u => (w_6 cI cZ ad u)) (f_X6_takeAddress u) := by
  refine en_i (cc := cX6_takeAddress) (maxL := 1) (ret := (some .int)) (own := RX6) (by decide +kernel) rfl rfl (Nat.le_of_ble_eq_true rfl) ?_
  intro p e s m args below meth c A ls C hr hlk hP hD hS hl
  have hx := C.1
  have hb := C.2.1
  have hl : lv_has ls 1 [(0, .ref (ad 0))] := hl
  refine lv_aload_n hx hb dX6_takeAddress_0 rfl (lv_at hl 0 rfl) ?_
  refine lv_dup hx hb dX6_takeAddress_1 rfl ?_
  refine gt6_13 C hP in_X6_takeAddress_6 ln_X6_takeAddress_1 (v := ((u 0).1 13)) rfl dX6_takeAddress_2 ?_
  refine lv_iconst (v := 1) hx hb dX6_takeAddress_5 (by decide) ?_
  refine lv_iadd hx hb dX6_takeAddress_6 ?_
  refine pt6_13 C hP hD hS in_X6_takeAddress_6 ln_X6_takeAddress_1 dX6_takeAddress_7 (fun H locs hP hD hS => ?_)
  refine lv_aload_n hx hb dX6_takeAddress_10 rfl (lv_at hl 0 rfl) ?_
  refine lv_iconst (v := 3) hx hb dX6_takeAddress_11 (by decide) ?_
  refine pt6_12 C hP hD hS in_X6_takeAddress_6 ln_X6_takeAddress_2 dX6_takeAddress_12 (fun H locs hP hD hS => ?_)
  refine lv_aload_n hx hb dX6_takeAddress_15 rfl (lv_at hl 0 rfl) ?_
  refine gt6_13 C hP in_X6_takeAddress_6 ln_X6_takeAddress_1 (v := (((u 0).1 13) + 1)) rfl dX6_takeAddress_16 ?_
  exact rt_i C hr hlk hP hD hS rfl dX6_takeAddress_19
theorem ln_X6_choose_1 : Cond.fieldLink RX6 185 "BlockCard" "address" "I" ∈ wsX6_choose := List.mem_of_getElem? (i := 1) rfl
theorem in_X6_choose_6 : ∀ w ∈ wsX60, w ∈ wsX6_choose := fun w h => List.mem_cons_of_mem _ (List.mem_append_right _ h)
theorem ln_X6_choose_2 : Cond.fieldLink RX6 111 "BlockCard" "state" "I" ∈ wsX6_choose := List.mem_of_getElem? (i := 2) rfl
set_option maxHeartbeats 4000000 in
set_option maxRecDepth 100000 in
theorem c_X6_choose (l : Launch) (D : va_G) (cI cZ : ClassId) (ad : Nat → Nat) (u : cd_S) (x1 : Int32)  : Ct_i l yX6_choose wsX6_choose ({ frames := 0, cells := 0, slots := 0, locals := 0 } : Room) D (ct_T cI cZ) [.ref (ad 0), .int x1] (w_6 cI cZ ad u) (fun u => (w_6 cI cZ ad u)) (f_X6_choose u x1) := by
  refine en_i (cc := cX6_choose) (maxL := 3) (ret := (some .int)) (own := RX6) (by decide +kernel) rfl rfl (Nat.le_of_ble_eq_true rfl) ?_
  intro p e s m args below meth c A ls C hr hlk hP hD hS hl
  have hx := C.1
  have hb := C.2.1
  have hl : lv_has ls 3 [(0, .ref (ad 0)), (1, .int x1)] := hl
  refine lv_iload_n hx hb dX6_choose_0 rfl (lv_at hl 1 rfl) ?_
  refine lv_aload_n hx hb dX6_choose_1 rfl (lv_at hl 0 rfl) ?_
  refine gt6_13 C hP in_X6_choose_6 ln_X6_choose_1 (v := ((u 0).1 13)) rfl dX6_choose_2 ?_
  refine jn_i (g := fun x => F0 m 13 ls (.int x :: [])) ((if x1 = ((u 0).1 13) then 1 else 0)) (fun y_1 ey_1 => ?_) (fun J_1 => ?_)
  · refine lv_istore_n (lv' := [(2, .int _), (0, .ref _), (1, .int _)]) hx hb dX6_choose_13 rfl hl (by decide) rfl (fun ls hl => ?_)
    refine lv_aload_n hx hb dX6_choose_14 rfl (lv_at hl 1 rfl) ?_
    refine gt6_12 C hP in_X6_choose_6 ln_X6_choose_2 (v := ((u 0).1 12)) rfl dX6_choose_15 ?_
    refine lv_iconst (v := 3) hx hb dX6_choose_18 (by decide) ?_
    refine lv_icmp_ne (tgt := 33) hx hb dX6_choose_19 (by decide) (fun c_3 => ?_) (fun c_3 => ?_)
    · refine lv_iload_n hx hb dX6_choose_33 rfl (lv_at hl 0 rfl) ?_
      refine lv_if_ne (tgt := 42) hx hb dX6_choose_34 (by decide) (fun c_4 => ?_) (fun c_4 => ?_)
      · refine lv_bipush (v := (-4)) hx hb dX6_choose_42 (by decide) ?_
        subst ey_1
        exact rt_i C hr hlk hP hD hS ((if_neg c_3).trans ((if_neg c_4).trans rfl)) dX6_choose_44
      · refine lv_aload_n hx hb dX6_choose_37 rfl (lv_at hl 1 rfl) ?_
        refine lv_iconst (v := 3) hx hb dX6_choose_38 (by decide) ?_
        refine pt6_12 C hP hD hS in_X6_choose_6 ln_X6_choose_2 dX6_choose_39 (fun H locs hP hD hS => ?_)
        refine lv_bipush (v := (-4)) hx hb dX6_choose_42 (by decide) ?_
        subst ey_1
        exact rt_i C hr hlk hP hD hS ((if_neg c_3).trans ((if_pos c_4).trans rfl)) dX6_choose_44
    · refine lv_iload_n hx hb dX6_choose_22 rfl (lv_at hl 0 rfl) ?_
      refine lv_if_eq (tgt := 33) hx hb dX6_choose_23 (by decide) (fun c_5 => ?_) (fun c_5 => ?_)
      · refine lv_iload_n hx hb dX6_choose_33 rfl (lv_at hl 0 rfl) ?_
        refine lv_if_ne (tgt := 42) hx hb dX6_choose_34 (by decide) (fun c_6 => ?_) (fun c_6 => ?_)
        · refine lv_bipush (v := (-4)) hx hb dX6_choose_42 (by decide) ?_
          subst ey_1
          exact rt_i C hr hlk hP hD hS ((if_pos c_3).trans ((if_pos c_5).trans ((if_neg c_6).trans rfl))) dX6_choose_44
        · refine lv_aload_n hx hb dX6_choose_37 rfl (lv_at hl 1 rfl) ?_
          refine lv_iconst (v := 3) hx hb dX6_choose_38 (by decide) ?_
          refine pt6_12 C hP hD hS in_X6_choose_6 ln_X6_choose_2 dX6_choose_39 (fun H locs hP hD hS => ?_)
          refine lv_bipush (v := (-4)) hx hb dX6_choose_42 (by decide) ?_
          subst ey_1
          exact rt_i C hr hlk hP hD hS ((if_pos c_3).trans ((if_pos c_5).trans ((if_pos c_6).trans rfl))) dX6_choose_44
      · refine lv_aload_n hx hb dX6_choose_26 rfl (lv_at hl 1 rfl) ?_
        refine lv_iconst (v := 4) hx hb dX6_choose_27 (by decide) ?_
        refine pt6_12 C hP hD hS in_X6_choose_6 ln_X6_choose_2 dX6_choose_28 (fun H locs hP hD hS => ?_)
        refine lv_iconst (v := 1) hx hb dX6_choose_31 (by decide) ?_
        subst ey_1
        exact rt_i C hr hlk hP hD hS ((if_pos c_3).trans ((if_neg c_5).trans rfl)) dX6_choose_32
  · refine lv_icmp_ne (tgt := 12) hx hb dX6_choose_5 (by decide) (fun c_2 => ?_) (fun c_2 => ?_)
    · refine lv_iconst (v := 0) hx hb dX6_choose_12 (by decide) ?_
      exact J_1 _ ((if_neg c_2).trans rfl).symm
    · refine lv_iconst (v := 1) hx hb dX6_choose_8 (by decide) ?_
      refine lv_goto (tgt := 13) hx hb dX6_choose_9 (by decide) ?_
      exact J_1 _ ((if_pos c_2).trans rfl).symm
theorem ln_X6_tellStatus_1 : Cond.fieldLink RX6 185 "BlockCard" "address" "I" ∈ wsX6_tellStatus := List.mem_of_getElem? (i := 1) rfl
theorem in_X6_tellStatus_6 : ∀ w ∈ wsX60, w ∈ wsX6_tellStatus := fun w h => List.mem_cons_of_mem _ (List.mem_append_right _ h)
theorem ln_X6_tellStatus_2 : Cond.fieldLink RX6 111 "BlockCard" "state" "I" ∈ wsX6_tellStatus := List.mem_of_getElem? (i := 2) rfl
theorem ln_X6_tellStatus_3 : Cond.fieldLink RX6 197 "BlockCard" "locked" "Z" ∈ wsX6_tellStatus := List.mem_of_getElem? (i := 3) rfl
theorem ln_X6_tellStatus_4 : Cond.fieldLink RX6 201 "BlockCard" "notes" "I" ∈ wsX6_tellStatus := List.mem_of_getElem? (i := 4) rfl
set_option maxHeartbeats 4000000 in
set_option maxRecDepth 100000 in
theorem c_X6_tellStatus (l : Launch) (D : va_G) (cI cZ : ClassId) (ad : Nat → Nat) (u : cd_S) (x1 : Int32)  : Ct_i l yX6_tellStatus wsX6_tellStatus ({ frames := 1, cells := 0, slots := 0, locals := 20 } : Room) D (ct_T cI cZ) [.ref (ad 0), .int x1] (w_6 cI cZ ad u) (fun u => (w_6 cI cZ ad u)) (f_X6_tellStatus u x1) := by
  refine en_i (cc := cX6_tellStatus) (maxL := 3) (ret := (some .int)) (own := RX6) (by decide +kernel) rfl rfl (Nat.le_of_ble_eq_true rfl) ?_
  intro p e s m args below meth c A ls C hr hlk hP hD hS hl
  have hx := C.1
  have hb := C.2.1
  have hl : lv_has ls 3 [(0, .ref (ad 0)), (1, .int x1)] := hl
  refine lv_iload_n hx hb dX6_tellStatus_0 rfl (lv_at hl 1 rfl) ?_
  refine lv_aload_n hx hb dX6_tellStatus_1 rfl (lv_at hl 0 rfl) ?_
  refine gt6_13 C hP in_X6_tellStatus_6 ln_X6_tellStatus_1 (v := ((u 0).1 13)) rfl dX6_tellStatus_2 ?_
  refine lv_icmp_eq (tgt := 11) hx hb dX6_tellStatus_5 (by decide) (fun c_1 => ?_) (fun c_1 => ?_)
  · refine lv_sipush (v := 256) hx hb dX6_tellStatus_11 (by decide) ?_
    refine lv_aload_n hx hb dX6_tellStatus_14 rfl (lv_at hl 0 rfl) ?_
    refine gt6_12 C hP in_X6_tellStatus_6 ln_X6_tellStatus_2 (v := ((u 0).1 12)) rfl dX6_tellStatus_15 ?_
    refine lv_imul hx hb dX6_tellStatus_18 ?_
    refine lv_sipush (v := 128) hx hb dX6_tellStatus_19 (by decide) ?_
    refine lv_aload_n hx hb dX6_tellStatus_22 rfl (lv_at hl 0 rfl) ?_
    refine gt6_16 C hP in_X6_tellStatus_6 ln_X6_tellStatus_3 (v := ((u 0).1 16)) rfl dX6_tellStatus_23 ?_
    refine ks_p C (c_X6_asNumber l D cI cZ ((u 0).1 16) ) (va_cwS 1 C.2.2.2.2.1 gX6_tellStatus_X6_asNumber rfl rfl rfl hdX6_asNumber ⟨Nat.le_of_ble_eq_true rfl, Nat.le_of_ble_eq_true rfl⟩) hP hD hS rfl hl.1 rfl (Nat.le_of_ble_eq_true rfl) dX6_tellStatus_26 ⟨Nat.zero_le _, Nat.zero_le _⟩ (fun H locs hP hS => ?_)
    refine lv_imul hx hb dX6_tellStatus_29 ?_
    refine lv_iadd hx hb dX6_tellStatus_30 ?_
    refine lv_aload_n hx hb dX6_tellStatus_31 rfl (lv_at hl 0 rfl) ?_
    refine gt6_14 C hP in_X6_tellStatus_6 ln_X6_tellStatus_4 (v := ((u 0).1 14)) rfl dX6_tellStatus_32 ?_
    refine lv_iadd hx hb dX6_tellStatus_35 ?_
    refine lv_istore_n (lv' := [(2, .int _), (0, .ref _), (1, .int _)]) hx hb dX6_tellStatus_36 rfl hl (by decide) rfl (fun ls hl => ?_)
    refine lv_aload_n hx hb dX6_tellStatus_37 rfl (lv_at hl 1 rfl) ?_
    refine lv_iconst (v := 0) hx hb dX6_tellStatus_38 (by decide) ?_
    refine pt6_14 C hP hD hS in_X6_tellStatus_6 ln_X6_tellStatus_4 dX6_tellStatus_39 (fun H locs hP hD hS => ?_)
    refine lv_iload_n hx hb dX6_tellStatus_42 rfl (lv_at hl 0 rfl) ?_
    exact rt_i C hr hlk hP hD hS ((if_pos c_1).trans rfl) dX6_tellStatus_43
  · refine lv_bipush (v := (-4)) hx hb dX6_tellStatus_8 (by decide) ?_
    exact rt_i C hr hlk hP hD hS ((if_neg c_1).trans rfl) dX6_tellStatus_10
theorem ln_X6_switchLines_1 : Cond.fieldLink RX6 52 "BlockCard" "link" "LBlockCard$Link;" ∈ wsX6_switchLines := List.mem_of_getElem? (i := 1) rfl
theorem in_X6_switchLines_6 : ∀ w ∈ wsX60, w ∈ wsX6_switchLines := fun w h => List.mem_cons_of_mem _ (List.mem_append_left _ (List.mem_append_right _ h))
set_option maxHeartbeats 4000000 in
set_option maxRecDepth 100000 in
theorem c_X6_switchLines (l : Launch) (D : va_G) (cI cZ : ClassId) (ad : Nat → Nat) (u : cd_S) (x1 : Int32)  : Ct_i l yX6_switchLines wsX6_switchLines ({ frames := 1, cells := 0, slots := 0, locals := 22 } : Room) D (ct_T cI cZ) [.ref (ad 0), .int x1] (w_6 cI cZ ad u) (fun u => (w_6 cI cZ ad u)) (f_X6_switchLines u x1) := by
  refine en_i (cc := cX6_switchLines) (maxL := 2) (ret := (some .int)) (own := RX6) (by decide +kernel) rfl rfl (Nat.le_of_ble_eq_true rfl) ?_
  intro p e s m args below meth c A ls C hr hlk hP hD hS hl
  have hx := C.1
  have hb := C.2.1
  have hl : lv_has ls 2 [(0, .ref (ad 0)), (1, .int x1)] := hl
  refine lv_aload_n hx hb dX6_switchLines_0 rfl (lv_at hl 0 rfl) ?_
  refine gt6_6 C hP in_X6_switchLines_6 ln_X6_switchLines_1 dX6_switchLines_1 ?_
  refine lv_iload_n hx hb dX6_switchLines_4 rfl (lv_at hl 1 rfl) ?_
  refine lv_iconst (v := 4) hx hb dX6_switchLines_5 (by decide) ?_
  refine lv_idiv hx hb dX6_switchLines_6 (by decide) ?_
  refine lv_iload_n hx hb dX6_switchLines_7 rfl (lv_at hl 1 rfl) ?_
  refine lv_iconst (v := 4) hx hb dX6_switchLines_8 (by decide) ?_
  refine lv_irem hx hb dX6_switchLines_9 (by decide) ?_
  refine kv_i C (c_X2_change l D cI cZ (ad 14) (u 7) (x1 / 4) (x1 - x1 / 4 * 4) ) (cwV 2 C.2.2.2.2.1 gX6_switchLines_X2_change rfl rfl rfl hdX2_change ⟨Nat.le_of_ble_eq_true rfl, Nat.le_of_ble_eq_true rfl⟩) (ci := 2) (q0 := 0) rfl rfl rfl hP hD hS (sp_6_7 cI cZ ad u) rfl hl.1 rfl (Nat.le_of_ble_eq_true rfl) dX6_switchLines_10 ⟨Nat.zero_le _, Nat.zero_le _⟩ (fun H locs hP hD hS => ?_)
  refine lv_if_ne (tgt := 22) hx hb dX6_switchLines_13 (by decide) (fun c_2 => ?_) (fun c_2 => ?_)
  · refine lv_iconst (v := 4) hx hb dX6_switchLines_22 (by decide) ?_
    refine lv_aload_n hx hb dX6_switchLines_23 rfl (lv_at hl 0 rfl) ?_
    refine gt6_6 C hP in_X6_switchLines_6 ln_X6_switchLines_1 dX6_switchLines_24 ?_
    refine kv_p C (c_X2_speed l D cI cZ (ad 14) (f_X2_change (u 7) (x1 / 4) (x1 - x1 / 4 * 4)).2  ) (cwV 0 C.2.2.2.2.1 gX6_switchLines_X2_speed rfl rfl rfl hdX2_speed ⟨Nat.le_of_ble_eq_true rfl, Nat.le_of_ble_eq_true rfl⟩) (ci := 2) (q0 := 0) rfl rfl rfl hP hD hS (su_6_7 cI cZ ad (va_up u 7 (f_X2_change (u 7) (x1 / 4) (x1 - x1 / 4 * 4)).2)) rfl hl.1 rfl (Nat.le_of_ble_eq_true rfl) dX6_switchLines_27 ⟨Nat.zero_le _, Nat.zero_le _⟩ (fun H locs hP hS => ?_)
    refine lv_imul hx hb dX6_switchLines_30 ?_
    refine lv_aload_n hx hb dX6_switchLines_31 rfl (lv_at hl 0 rfl) ?_
    refine gt6_6 C hP in_X6_switchLines_6 ln_X6_switchLines_1 dX6_switchLines_32 ?_
    refine kv_p C (c_X2_lines l D cI cZ (ad 14) (f_X2_change (u 7) (x1 / 4) (x1 - x1 / 4 * 4)).2  ) (cwV 0 C.2.2.2.2.1 gX6_switchLines_X2_lines rfl rfl rfl hdX2_lines ⟨Nat.le_of_ble_eq_true rfl, Nat.le_of_ble_eq_true rfl⟩) (ci := 2) (q0 := 0) rfl rfl rfl hP hD hS (su_6_7 cI cZ ad (va_up u 7 (f_X2_change (u 7) (x1 / 4) (x1 - x1 / 4 * 4)).2)) rfl hl.1 rfl (Nat.le_of_ble_eq_true rfl) dX6_switchLines_35 ⟨Nat.zero_le _, Nat.zero_le _⟩ (fun H locs hP hS => ?_)
    refine lv_iadd hx hb dX6_switchLines_38 ?_
    exact rt_i C hr hlk hP hD hS ((if_neg c_2).trans rfl) dX6_switchLines_39
  · refine lv_aload_n hx hb dX6_switchLines_16 rfl (lv_at hl 0 rfl) ?_
    refine lv_bipush (v := 32) hx hb dX6_switchLines_17 (by decide) ?_
    refine kv_v C (c_X6_note l D cI cZ ad (va_up u 7 (f_X2_change (u 7) (x1 / 4) (x1 - x1 / 4 * 4)).2) 32 ) (cwV 1 C.2.2.2.2.1 gX6_switchLines_X6_note rfl rfl rfl hdX6_note ⟨Nat.le_of_ble_eq_true rfl, Nat.le_of_ble_eq_true rfl⟩) (ci := 6) (q0 := 0) rfl rfl rfl hP hD hS (sp_self (fun u => (w_6 cI cZ ad u)) 15 (fun _ => rfl)) rfl hl.1 rfl (Nat.le_of_ble_eq_true rfl) dX6_switchLines_19 ⟨Nat.zero_le _, Nat.zero_le _⟩ (fun H locs hP hD hS => ?_)
    refine lv_iconst (v := 4) hx hb dX6_switchLines_22 (by decide) ?_
    refine lv_aload_n hx hb dX6_switchLines_23 rfl (lv_at hl 0 rfl) ?_
    refine gt6_6 C hP in_X6_switchLines_6 ln_X6_switchLines_1 dX6_switchLines_24 ?_
    refine kv_p C (c_X2_speed l D cI cZ (ad 14) ((f_X6_note (va_up u 7 (f_X2_change (u 7) (x1 / 4) (x1 - x1 / 4 * 4)).2) 32) 7)  ) (cwV 0 C.2.2.2.2.1 gX6_switchLines_X2_speed rfl rfl rfl hdX2_speed ⟨Nat.le_of_ble_eq_true rfl, Nat.le_of_ble_eq_true rfl⟩) (ci := 2) (q0 := 0) rfl rfl rfl hP hD hS (su_6_7 cI cZ ad (f_X6_note (va_up u 7 (f_X2_change (u 7) (x1 / 4) (x1 - x1 / 4 * 4)).2) 32)) rfl hl.1 rfl (Nat.le_of_ble_eq_true rfl) dX6_switchLines_27 ⟨Nat.zero_le _, Nat.zero_le _⟩ (fun H locs hP hS => ?_)
    refine lv_imul hx hb dX6_switchLines_30 ?_
    refine lv_aload_n hx hb dX6_switchLines_31 rfl (lv_at hl 0 rfl) ?_
    refine gt6_6 C hP in_X6_switchLines_6 ln_X6_switchLines_1 dX6_switchLines_32 ?_
    refine kv_p C (c_X2_lines l D cI cZ (ad 14) ((f_X6_note (va_up u 7 (f_X2_change (u 7) (x1 / 4) (x1 - x1 / 4 * 4)).2) 32) 7)  ) (cwV 0 C.2.2.2.2.1 gX6_switchLines_X2_lines rfl rfl rfl hdX2_lines ⟨Nat.le_of_ble_eq_true rfl, Nat.le_of_ble_eq_true rfl⟩) (ci := 2) (q0 := 0) rfl rfl rfl hP hD hS (su_6_7 cI cZ ad (f_X6_note (va_up u 7 (f_X2_change (u 7) (x1 / 4) (x1 - x1 / 4 * 4)).2) 32)) rfl hl.1 rfl (Nat.le_of_ble_eq_true rfl) dX6_switchLines_35 ⟨Nat.zero_le _, Nat.zero_le _⟩ (fun H locs hP hS => ?_)
    refine lv_iadd hx hb dX6_switchLines_38 ?_
    exact rt_i C hr hlk hP hD hS ((if_pos c_2).trans rfl) dX6_switchLines_39
theorem ln_X6_movePoint_1 : Cond.fieldLink RX6 52 "BlockCard" "link" "LBlockCard$Link;" ∈ wsX6_movePoint := List.mem_of_getElem? (i := 1) rfl
theorem in_X6_movePoint_6 : ∀ w ∈ wsX60, w ∈ wsX6_movePoint := fun w h => List.mem_cons_of_mem _ (List.mem_append_left _ (List.mem_append_right _ h))
theorem ln_X6_movePoint_2 : Cond.fieldLink RX6 78 "BlockCard" "heat" "I" ∈ wsX6_movePoint := List.mem_of_getElem? (i := 2) rfl
set_option maxHeartbeats 4000000 in
set_option maxRecDepth 100000 in
theorem c_X6_movePoint (l : Launch) (D : va_G) (cI cZ : ClassId) (ad : Nat → Nat) (u : cd_S) (x1 : Int32)  : Ct_i l yX6_movePoint wsX6_movePoint ({ frames := 2, cells := 0, slots := 0, locals := 48 } : Room) D (ct_T cI cZ) [.ref (ad 0), .int x1] (w_6 cI cZ ad u) (fun u => (w_6 cI cZ ad u)) (f_X6_movePoint u x1) := by
  refine en_i (cc := cX6_movePoint) (maxL := 2) (ret := (some .int)) (own := RX6) (by decide +kernel) rfl rfl (Nat.le_of_ble_eq_true rfl) ?_
  intro p e s m args below meth c A ls C hr hlk hP hD hS hl
  have hx := C.1
  have hb := C.2.1
  have hl : lv_has ls 2 [(0, .ref (ad 0)), (1, .int x1)] := hl
  refine lv_aload_n hx hb dX6_movePoint_0 rfl (lv_at hl 0 rfl) ?_
  refine gt6_6 C hP in_X6_movePoint_6 ln_X6_movePoint_1 dX6_movePoint_1 ?_
  refine lv_iload_n hx hb dX6_movePoint_4 rfl (lv_at hl 1 rfl) ?_
  refine lv_bipush (v := 16) hx hb dX6_movePoint_5 (by decide) ?_
  refine lv_irem hx hb dX6_movePoint_7 (by decide) ?_
  refine kv_v C (c_X2_look l D cI cZ (ad 14) (u 7) (x1 - x1 / 16 * 16) ) (cwV 1 C.2.2.2.2.1 gX6_movePoint_X2_look rfl rfl rfl hdX2_look ⟨Nat.le_of_ble_eq_true rfl, Nat.le_of_ble_eq_true rfl⟩) (ci := 2) (q0 := 0) rfl rfl rfl hP hD hS (sp_6_7 cI cZ ad u) rfl hl.1 rfl (Nat.le_of_ble_eq_true rfl) dX6_movePoint_8 ⟨Nat.zero_le _, Nat.zero_le _⟩ (fun H locs hP hD hS => ?_)
  refine lv_aload_n hx hb dX6_movePoint_11 rfl (lv_at hl 0 rfl) ?_
  refine gt6_6 C hP in_X6_movePoint_6 ln_X6_movePoint_1 dX6_movePoint_12 ?_
  refine lv_aload_n hx hb dX6_movePoint_15 rfl (lv_at hl 0 rfl) ?_
  refine gt6_11 C hP in_X6_movePoint_6 ln_X6_movePoint_2 (v := ((u 0).1 11)) rfl dX6_movePoint_16 ?_
  refine kv_p C (c_X2_isInWindow l D cI cZ (ad 14) (f_X2_look (u 7) (x1 - x1 / 16 * 16)) ((u 0).1 11) ) (cwV 1 C.2.2.2.2.1 gX6_movePoint_X2_isInWindow rfl rfl rfl hdX2_isInWindow ⟨Nat.le_of_ble_eq_true rfl, Nat.le_of_ble_eq_true rfl⟩) (ci := 2) (q0 := 0) rfl rfl rfl hP hD hS (su_6_7 cI cZ ad (va_up u 7 (f_X2_look (u 7) (x1 - x1 / 16 * 16)))) rfl hl.1 rfl (Nat.le_of_ble_eq_true rfl) dX6_movePoint_19 ⟨Nat.zero_le _, Nat.zero_le _⟩ (fun H locs hP hS => ?_)
  refine ks_p C (c_X6_asNumber l D cI cZ (f_X2_isInWindow (f_X2_look (u 7) (x1 - x1 / 16 * 16)) ((u 0).1 11)) ) (va_cwS 1 C.2.2.2.2.1 gX6_movePoint_X6_asNumber rfl rfl rfl hdX6_asNumber ⟨Nat.le_of_ble_eq_true rfl, Nat.le_of_ble_eq_true rfl⟩) hP hD hS rfl hl.1 rfl (Nat.le_of_ble_eq_true rfl) dX6_movePoint_22 ⟨Nat.zero_le _, Nat.zero_le _⟩ (fun H locs hP hS => ?_)
  exact rt_i C hr hlk hP hD hS rfl dX6_movePoint_25
theorem ln_X6_expect_1 : Cond.fieldLink RX6 45 "BlockCard" "stream" "LBlockCard$Stream;" ∈ wsX6_expect := List.mem_of_getElem? (i := 1) rfl
theorem in_X6_expect_6 : ∀ w ∈ wsX60, w ∈ wsX6_expect := fun w h => List.mem_cons_of_mem _ (List.mem_append_left _ (List.mem_append_right _ h))
set_option maxHeartbeats 4000000 in
set_option maxRecDepth 100000 in
theorem c_X6_expect (l : Launch) (D : va_G) (cI cZ : ClassId) (ad : Nat → Nat) (u : cd_S) (x1 : Int32)  : Ct_i l yX6_expect wsX6_expect ({ frames := 1, cells := 0, slots := 0, locals := 21 } : Room) D (ct_T cI cZ) [.ref (ad 0), .int x1] (w_6 cI cZ ad u) (fun u => (w_6 cI cZ ad u)) (f_X6_expect u x1) := by
  refine en_i (cc := cX6_expect) (maxL := 2) (ret := (some .int)) (own := RX6) (by decide +kernel) rfl rfl (Nat.le_of_ble_eq_true rfl) ?_
  intro p e s m args below meth c A ls C hr hlk hP hD hS hl
  have hx := C.1
  have hb := C.2.1
  have hl : lv_has ls 2 [(0, .ref (ad 0)), (1, .int x1)] := hl
  refine lv_aload_n hx hb dX6_expect_0 rfl (lv_at hl 0 rfl) ?_
  refine gt6_5 C hP in_X6_expect_6 ln_X6_expect_1 dX6_expect_1 ?_
  refine lv_iload_n hx hb dX6_expect_4 rfl (lv_at hl 1 rfl) ?_
  refine kv_v C (c_X5_expect l D cI cZ (ad 13) (u 6) x1 ) (cwV 1 C.2.2.2.2.1 gX6_expect_X5_expect rfl rfl rfl hdX5_expect ⟨Nat.le_of_ble_eq_true rfl, Nat.le_of_ble_eq_true rfl⟩) (ci := 5) (q0 := 0) rfl rfl rfl hP hD hS (sp_6_6 cI cZ ad u) rfl hl.1 rfl (Nat.le_of_ble_eq_true rfl) dX6_expect_5 ⟨Nat.zero_le _, Nat.zero_le _⟩ (fun H locs hP hD hS => ?_)
  refine lv_iload_n hx hb dX6_expect_8 rfl (lv_at hl 1 rfl) ?_
  exact rt_i C hr hlk hP hD hS rfl dX6_expect_9
set_option maxHeartbeats 4000000 in
set_option maxRecDepth 100000 in
theorem c_X6_refuse (l : Launch) (D : va_G) (cI cZ : ClassId) (ad : Nat → Nat) (u : cd_S) (x1 : Int32)  : Ct_i l yX6_refuse wsX6_refuse ({ frames := 1, cells := 0, slots := 0, locals := 21 } : Room) D (ct_T cI cZ) [.ref (ad 0), .int x1] (w_6 cI cZ ad u) (fun u => (w_6 cI cZ ad u)) (f_X6_refuse u x1) := by
  refine en_i (cc := cX6_refuse) (maxL := 2) (ret := (some .int)) (own := RX6) (by decide +kernel) rfl rfl (Nat.le_of_ble_eq_true rfl) ?_
  intro p e s m args below meth c A ls C hr hlk hP hD hS hl
  have hx := C.1
  have hb := C.2.1
  have hl : lv_has ls 2 [(0, .ref (ad 0)), (1, .int x1)] := hl
  refine lv_aload_n hx hb dX6_refuse_0 rfl (lv_at hl 0 rfl) ?_
  refine lv_iload_n hx hb dX6_refuse_1 rfl (lv_at hl 1 rfl) ?_
  refine kv_v C (c_X6_note l D cI cZ ad u x1 ) (cwV 1 C.2.2.2.2.1 gX6_refuse_X6_note rfl rfl rfl hdX6_note ⟨Nat.le_of_ble_eq_true rfl, Nat.le_of_ble_eq_true rfl⟩) (ci := 6) (q0 := 0) rfl rfl rfl hP hD hS (sp_self (fun u => (w_6 cI cZ ad u)) 15 (fun _ => rfl)) rfl hl.1 rfl (Nat.le_of_ble_eq_true rfl) dX6_refuse_2 ⟨Nat.zero_le _, Nat.zero_le _⟩ (fun H locs hP hD hS => ?_)
  refine lv_bipush (v := (-2)) hx hb dX6_refuse_5 (by decide) ?_
  exact rt_i C hr hlk hP hD hS rfl dX6_refuse_7
theorem ln_X6_beginStream_1 : Cond.fieldLink RX6 10 "BlockCard" "memory" "LBlockCard$Memory;" ∈ wsX6_beginStream := List.mem_of_getElem? (i := 1) rfl
theorem in_X6_beginStream_6 : ∀ w ∈ wsX60, w ∈ wsX6_beginStream := fun w h => List.mem_cons_of_mem _ (List.mem_append_left _ (List.mem_append_left _ (List.mem_append_right _ h)))
theorem ln_X6_beginStream_2 : Cond.fieldLink RX6 45 "BlockCard" "stream" "LBlockCard$Stream;" ∈ wsX6_beginStream := List.mem_of_getElem? (i := 2) rfl
theorem ln_X6_beginStream_3 : Cond.fieldLink RX6 111 "BlockCard" "state" "I" ∈ wsX6_beginStream := List.mem_of_getElem? (i := 3) rfl
theorem ln_X6_beginStream_4 : Cond.fieldLink RX6 204 "BlockCard" "well" "I" ∈ wsX6_beginStream := List.mem_of_getElem? (i := 4) rfl
set_option maxHeartbeats 4000000 in
set_option maxRecDepth 100000 in
theorem c_X6_beginStream (l : Launch) (D : va_G) (cI cZ : ClassId) (ad : Nat → Nat) (u : cd_S) (x1 : Int32) (x2 : Int32) (x3 : Int32)  : Ct_i l yX6_beginStream wsX6_beginStream ({ frames := 2, cells := 0, slots := 0, locals := 42 } : Room) D (ct_T cI cZ) [.ref (ad 0), .int x1, .int x2, .int x3] (w_6 cI cZ ad u) (fun u => (w_6 cI cZ ad u)) (f_X6_beginStream u x1 x2 x3) := by
  refine en_i (cc := cX6_beginStream) (maxL := 4) (ret := (some .int)) (own := RX6) (by decide +kernel) rfl rfl (Nat.le_of_ble_eq_true rfl) ?_
  intro p e s m args below meth c A ls C hr hlk hP hD hS hl
  have hx := C.1
  have hb := C.2.1
  have hl : lv_has ls 4 [(0, .ref (ad 0)), (1, .int x1), (2, .int x2), (3, .int x3)] := hl
  refine lv_aload_n hx hb dX6_beginStream_0 rfl (lv_at hl 0 rfl) ?_
  refine gt6_0 C hP in_X6_beginStream_6 ln_X6_beginStream_1 dX6_beginStream_1 ?_
  refine lv_iload_n hx hb dX6_beginStream_4 rfl (lv_at hl 2 rfl) ?_
  refine kv_p C (c_X3_has l D cI cZ (ad 1) (ad 2) (ad 3) (ad 4) (u 1) x2 ) (cwV 1 C.2.2.2.2.1 gX6_beginStream_X3_has rfl rfl rfl hdX3_has ⟨Nat.le_of_ble_eq_true rfl, Nat.le_of_ble_eq_true rfl⟩) (ci := 3) (q0 := 0) rfl rfl rfl hP hD hS (su_6_1 cI cZ ad u) rfl hl.1 rfl (Nat.le_of_ble_eq_true rfl) dX6_beginStream_5 ⟨Nat.zero_le _, Nat.zero_le _⟩ (fun H locs hP hS => ?_)
  refine lv_if_ne (tgt := 17) hx hb dX6_beginStream_8 (by decide) (fun c_1 => ?_) (fun c_1 => ?_)
  · refine lv_aload_n hx hb dX6_beginStream_17 rfl (lv_at hl 0 rfl) ?_
    refine gt6_5 C hP in_X6_beginStream_6 ln_X6_beginStream_2 dX6_beginStream_18 ?_
    refine lv_iload_n hx hb dX6_beginStream_21 rfl (lv_at hl 2 rfl) ?_
    refine lv_iload_n hx hb dX6_beginStream_22 rfl (lv_at hl 3 rfl) ?_
    refine kv_v C (c_X5_begin l D cI cZ (ad 13) (u 6) x2 x3 ) (cwV 2 C.2.2.2.2.1 gX6_beginStream_X5_begin rfl rfl rfl hdX5_begin ⟨Nat.le_of_ble_eq_true rfl, Nat.le_of_ble_eq_true rfl⟩) (ci := 5) (q0 := 0) rfl rfl rfl hP hD hS (sp_6_6 cI cZ ad u) rfl hl.1 rfl (Nat.le_of_ble_eq_true rfl) dX6_beginStream_23 ⟨Nat.zero_le _, Nat.zero_le _⟩ (fun H locs hP hD hS => ?_)
    refine lv_aload_n hx hb dX6_beginStream_26 rfl (lv_at hl 0 rfl) ?_
    refine lv_iload_n hx hb dX6_beginStream_27 rfl (lv_at hl 1 rfl) ?_
    refine pt6_12 C hP hD hS in_X6_beginStream_6 ln_X6_beginStream_3 dX6_beginStream_28 (fun H locs hP hD hS => ?_)
    refine lv_iload_n hx hb dX6_beginStream_31 rfl (lv_at hl 1 rfl) ?_
    refine lv_bipush (v := 6) hx hb dX6_beginStream_32 (by decide) ?_
    refine lv_icmp_ne (tgt := 42) hx hb dX6_beginStream_34 (by decide) (fun c_3 => ?_) (fun c_3 => ?_)
    · refine lv_iconst (v := 0) hx hb dX6_beginStream_42 (by decide) ?_
      exact rt_i C hr hlk hP hD hS ((if_neg c_1).trans ((if_neg c_3).trans rfl)) dX6_beginStream_43
    · refine lv_aload_n hx hb dX6_beginStream_37 rfl (lv_at hl 0 rfl) ?_
      refine lv_iconst (v := 0) hx hb dX6_beginStream_38 (by decide) ?_
      refine pt6_9 C hP hD hS in_X6_beginStream_6 ln_X6_beginStream_4 dX6_beginStream_39 (fun H locs hP hD hS => ?_)
      refine lv_iconst (v := 0) hx hb dX6_beginStream_42 (by decide) ?_
      exact rt_i C hr hlk hP hD hS ((if_neg c_1).trans ((if_pos c_3).trans rfl)) dX6_beginStream_43
  · refine lv_aload_n hx hb dX6_beginStream_11 rfl (lv_at hl 0 rfl) ?_
    refine lv_iconst (v := 4) hx hb dX6_beginStream_12 (by decide) ?_
    refine kv_i C (c_X6_refuse l D cI cZ ad u 4 ) (cwV 1 C.2.2.2.2.1 gX6_beginStream_X6_refuse rfl rfl rfl hdX6_refuse ⟨Nat.le_of_ble_eq_true rfl, Nat.le_of_ble_eq_true rfl⟩) (ci := 6) (q0 := 0) rfl rfl rfl hP hD hS (sp_self (fun u => (w_6 cI cZ ad u)) 15 (fun _ => rfl)) rfl hl.1 rfl (Nat.le_of_ble_eq_true rfl) dX6_beginStream_13 ⟨Nat.zero_le _, Nat.zero_le _⟩ (fun H locs hP hD hS => ?_)
    exact rt_i C hr hlk hP hD hS ((if_pos c_1).trans rfl) dX6_beginStream_16
theorem ln_X6_stop_1 : Cond.fieldLink RX6 31 "BlockCard" "queue" "LBlockCard$Queue;" ∈ wsX6_stop := List.mem_of_getElem? (i := 1) rfl
theorem in_X6_stop_6 : ∀ w ∈ wsX60, w ∈ wsX6_stop := fun w h => List.mem_cons_of_mem _ (List.mem_append_left _ (List.mem_append_right _ h))
theorem ln_X6_stop_2 : Cond.fieldLink RX6 111 "BlockCard" "state" "I" ∈ wsX6_stop := List.mem_of_getElem? (i := 2) rfl
set_option maxHeartbeats 4000000 in
set_option maxRecDepth 100000 in
theorem c_X6_stop (l : Launch) (D : va_G) (cI cZ : ClassId) (ad : Nat → Nat) (u : cd_S)  : Ct_i l yX6_stop wsX6_stop ({ frames := 1, cells := 0, slots := 0, locals := 20 } : Room) D (ct_T cI cZ) [.ref (ad 0)] (w_6 cI cZ ad u) (fun u => (w_6 cI cZ ad u)) (f_X6_stop u) := by
  refine en_i (cc := cX6_stop) (maxL := 2) (ret := (some .int)) (own := RX6) (by decide +kernel) rfl rfl (Nat.le_of_ble_eq_true rfl) ?_
  intro p e s m args below meth c A ls C hr hlk hP hD hS hl
  have hx := C.1
  have hb := C.2.1
  have hl : lv_has ls 2 [(0, .ref (ad 0))] := hl
  refine lv_aload_n hx hb dX6_stop_0 rfl (lv_at hl 0 rfl) ?_
  refine gt6_3 C hP in_X6_stop_6 ln_X6_stop_1 dX6_stop_1 ?_
  refine kv_p C (c_X4_size l D cI cZ (ad 9) (ad 10) (ad 11) (u 4)  ) (cwV 0 C.2.2.2.2.1 gX6_stop_X4_size rfl rfl rfl hdX4_size ⟨Nat.le_of_ble_eq_true rfl, Nat.le_of_ble_eq_true rfl⟩) (ci := 4) (q0 := 0) rfl rfl rfl hP hD hS (su_6_4 cI cZ ad u) rfl hl.1 rfl (Nat.le_of_ble_eq_true rfl) dX6_stop_4 ⟨Nat.zero_le _, Nat.zero_le _⟩ (fun H locs hP hS => ?_)
  refine lv_istore_n (lv' := [(1, .int _), (0, .ref _)]) hx hb dX6_stop_7 rfl hl (by decide) rfl (fun ls hl => ?_)
  refine lv_aload_n hx hb dX6_stop_8 rfl (lv_at hl 1 rfl) ?_
  refine lv_iload_n hx hb dX6_stop_9 rfl (lv_at hl 0 rfl) ?_
  refine jn_i (g := fun x => F0 m 19 ls (.int x :: [.ref (ad 0)])) ((if (f_X4_size (u 4)) ≤ 0 then 4 else 7)) (fun y_1 ey_1 => ?_) (fun J_1 => ?_)
  · refine pt6_12 C hP hD hS in_X6_stop_6 ln_X6_stop_2 dX6_stop_19 (fun H locs hP hD hS => ?_)
    refine lv_iload_n hx hb dX6_stop_22 rfl (lv_at hl 0 rfl) ?_
    subst ey_1
    exact rt_i C hr hlk hP hD hS rfl dX6_stop_23
  · refine lv_if_le (tgt := 18) hx hb dX6_stop_10 (by decide) (fun c_2 => ?_) (fun c_2 => ?_)
    · refine lv_iconst (v := 4) hx hb dX6_stop_18 (by decide) ?_
      exact J_1 _ ((if_pos c_2).trans rfl).symm
    · refine lv_bipush (v := 7) hx hb dX6_stop_13 (by decide) ?_
      refine lv_goto (tgt := 19) hx hb dX6_stop_15 (by decide) ?_
      exact J_1 _ ((if_neg c_2).trans rfl).symm
theorem ln_X6_eraseFrom_1 : Cond.fieldLink RX6 10 "BlockCard" "memory" "LBlockCard$Memory;" ∈ wsX6_eraseFrom := List.mem_of_getElem? (i := 1) rfl
theorem in_X6_eraseFrom_6 : ∀ w ∈ wsX60, w ∈ wsX6_eraseFrom := fun w h => List.mem_cons_of_mem _ (List.mem_append_left _ (List.mem_append_left _ (List.mem_append_right _ h)))
theorem ln_X6_eraseFrom_2 : Cond.fieldLink RX6 38 "BlockCard" "eraser" "LBlockCard$Eraser;" ∈ wsX6_eraseFrom := List.mem_of_getElem? (i := 2) rfl
set_option maxHeartbeats 4000000 in
set_option maxRecDepth 100000 in
theorem c_X6_eraseFrom (l : Launch) (D : va_G) (cI cZ : ClassId) (ad : Nat → Nat) (u : cd_S) (x1 : Int32)  : Ct_i l yX6_eraseFrom wsX6_eraseFrom ({ frames := 2, cells := 0, slots := 0, locals := 42 } : Room) D (ct_T cI cZ) [.ref (ad 0), .int x1] (w_6 cI cZ ad u) (fun u => (w_6 cI cZ ad u)) (f_X6_eraseFrom u x1) := by
  refine en_i (cc := cX6_eraseFrom) (maxL := 2) (ret := (some .int)) (own := RX6) (by decide +kernel) rfl rfl (Nat.le_of_ble_eq_true rfl) ?_
  intro p e s m args below meth c A ls C hr hlk hP hD hS hl
  have hx := C.1
  have hb := C.2.1
  have hl : lv_has ls 2 [(0, .ref (ad 0)), (1, .int x1)] := hl
  refine lv_aload_n hx hb dX6_eraseFrom_0 rfl (lv_at hl 0 rfl) ?_
  refine gt6_0 C hP in_X6_eraseFrom_6 ln_X6_eraseFrom_1 dX6_eraseFrom_1 ?_
  refine lv_iload_n hx hb dX6_eraseFrom_4 rfl (lv_at hl 1 rfl) ?_
  refine kv_p C (c_X3_has l D cI cZ (ad 1) (ad 2) (ad 3) (ad 4) (u 1) x1 ) (cwV 1 C.2.2.2.2.1 gX6_eraseFrom_X3_has rfl rfl rfl hdX3_has ⟨Nat.le_of_ble_eq_true rfl, Nat.le_of_ble_eq_true rfl⟩) (ci := 3) (q0 := 0) rfl rfl rfl hP hD hS (su_6_1 cI cZ ad u) rfl hl.1 rfl (Nat.le_of_ble_eq_true rfl) dX6_eraseFrom_5 ⟨Nat.zero_le _, Nat.zero_le _⟩ (fun H locs hP hS => ?_)
  refine lv_if_ne (tgt := 17) hx hb dX6_eraseFrom_8 (by decide) (fun c_1 => ?_) (fun c_1 => ?_)
  · refine lv_aload_n hx hb dX6_eraseFrom_17 rfl (lv_at hl 0 rfl) ?_
    refine gt6_4 C hP in_X6_eraseFrom_6 ln_X6_eraseFrom_2 dX6_eraseFrom_18 ?_
    refine lv_iload_n hx hb dX6_eraseFrom_21 rfl (lv_at hl 1 rfl) ?_
    refine kv_v C (c_X0_beginFrom l D cI cZ (ad 12) (u 5) x1 ) (cwV 1 C.2.2.2.2.1 gX6_eraseFrom_X0_beginFrom rfl rfl rfl hdX0_beginFrom ⟨Nat.le_of_ble_eq_true rfl, Nat.le_of_ble_eq_true rfl⟩) (ci := 0) (q0 := 0) rfl rfl rfl hP hD hS (sp_6_5 cI cZ ad u) rfl hl.1 rfl (Nat.le_of_ble_eq_true rfl) dX6_eraseFrom_22 ⟨Nat.zero_le _, Nat.zero_le _⟩ (fun H locs hP hD hS => ?_)
    refine lv_iconst (v := 0) hx hb dX6_eraseFrom_25 (by decide) ?_
    exact rt_i C hr hlk hP hD hS ((if_neg c_1).trans rfl) dX6_eraseFrom_26
  · refine lv_aload_n hx hb dX6_eraseFrom_11 rfl (lv_at hl 0 rfl) ?_
    refine lv_iconst (v := 4) hx hb dX6_eraseFrom_12 (by decide) ?_
    refine kv_i C (c_X6_refuse l D cI cZ ad u 4 ) (cwV 1 C.2.2.2.2.1 gX6_eraseFrom_X6_refuse rfl rfl rfl hdX6_refuse ⟨Nat.le_of_ble_eq_true rfl, Nat.le_of_ble_eq_true rfl⟩) (ci := 6) (q0 := 0) rfl rfl rfl hP hD hS (sp_self (fun u => (w_6 cI cZ ad u)) 15 (fun _ => rfl)) rfl hl.1 rfl (Nat.le_of_ble_eq_true rfl) dX6_eraseFrom_13 ⟨Nat.zero_le _, Nat.zero_le _⟩ (fun H locs hP hD hS => ?_)
    exact rt_i C hr hlk hP hD hS ((if_pos c_1).trans rfl) dX6_eraseFrom_16
theorem ln_X6_eraseTo_1 : Cond.fieldLink RX6 10 "BlockCard" "memory" "LBlockCard$Memory;" ∈ wsX6_eraseTo := List.mem_of_getElem? (i := 1) rfl
theorem in_X6_eraseTo_6 : ∀ w ∈ wsX60, w ∈ wsX6_eraseTo := fun w h => List.mem_cons_of_mem _ (List.mem_append_left _ (List.mem_append_left _ (List.mem_append_right _ h)))
theorem ln_X6_eraseTo_2 : Cond.fieldLink RX6 38 "BlockCard" "eraser" "LBlockCard$Eraser;" ∈ wsX6_eraseTo := List.mem_of_getElem? (i := 2) rfl
set_option maxHeartbeats 4000000 in
set_option maxRecDepth 100000 in
theorem c_X6_eraseTo (l : Launch) (D : va_G) (cI cZ : ClassId) (ad : Nat → Nat) (u : cd_S) (x1 : Int32)  : Ct_i l yX6_eraseTo wsX6_eraseTo ({ frames := 2, cells := 0, slots := 0, locals := 42 } : Room) D (ct_T cI cZ) [.ref (ad 0), .int x1] (w_6 cI cZ ad u) (fun u => (w_6 cI cZ ad u)) (f_X6_eraseTo u x1) := by
  refine en_i (cc := cX6_eraseTo) (maxL := 2) (ret := (some .int)) (own := RX6) (by decide +kernel) rfl rfl (Nat.le_of_ble_eq_true rfl) ?_
  intro p e s m args below meth c A ls C hr hlk hP hD hS hl
  have hx := C.1
  have hb := C.2.1
  have hl : lv_has ls 2 [(0, .ref (ad 0)), (1, .int x1)] := hl
  refine lv_aload_n hx hb dX6_eraseTo_0 rfl (lv_at hl 0 rfl) ?_
  refine gt6_0 C hP in_X6_eraseTo_6 ln_X6_eraseTo_1 dX6_eraseTo_1 ?_
  refine lv_iload_n hx hb dX6_eraseTo_4 rfl (lv_at hl 1 rfl) ?_
  refine kv_p C (c_X3_has l D cI cZ (ad 1) (ad 2) (ad 3) (ad 4) (u 1) x1 ) (cwV 1 C.2.2.2.2.1 gX6_eraseTo_X3_has rfl rfl rfl hdX3_has ⟨Nat.le_of_ble_eq_true rfl, Nat.le_of_ble_eq_true rfl⟩) (ci := 3) (q0 := 0) rfl rfl rfl hP hD hS (su_6_1 cI cZ ad u) rfl hl.1 rfl (Nat.le_of_ble_eq_true rfl) dX6_eraseTo_5 ⟨Nat.zero_le _, Nat.zero_le _⟩ (fun H locs hP hS => ?_)
  refine lv_if_ne (tgt := 24) hx hb dX6_eraseTo_8 (by decide) (fun c_1 => ?_) (fun c_1 => ?_)
  · refine lv_aload_n hx hb dX6_eraseTo_24 rfl (lv_at hl 0 rfl) ?_
    refine gt6_4 C hP in_X6_eraseTo_6 ln_X6_eraseTo_2 dX6_eraseTo_25 ?_
    refine lv_iload_n hx hb dX6_eraseTo_28 rfl (lv_at hl 1 rfl) ?_
    refine kv_i C (c_X0_continueTo l D cI cZ (ad 12) (u 5) x1 ) (cwV 1 C.2.2.2.2.1 gX6_eraseTo_X0_continueTo rfl rfl rfl hdX0_continueTo ⟨Nat.le_of_ble_eq_true rfl, Nat.le_of_ble_eq_true rfl⟩) (ci := 0) (q0 := 0) rfl rfl rfl hP hD hS (sp_6_5 cI cZ ad u) rfl hl.1 rfl (Nat.le_of_ble_eq_true rfl) dX6_eraseTo_29 ⟨Nat.zero_le _, Nat.zero_le _⟩ (fun H locs hP hD hS => ?_)
    refine lv_if_ne (tgt := 49) hx hb dX6_eraseTo_32 (by decide) (fun c_3 => ?_) (fun c_3 => ?_)
    · refine lv_iconst (v := 0) hx hb dX6_eraseTo_49 (by decide) ?_
      exact rt_i C hr hlk hP hD hS ((if_neg c_1).trans ((if_neg c_3).trans rfl)) dX6_eraseTo_50
    · refine lv_aload_n hx hb dX6_eraseTo_35 rfl (lv_at hl 0 rfl) ?_
      refine gt6_4 C hP in_X6_eraseTo_6 ln_X6_eraseTo_2 dX6_eraseTo_36 ?_
      refine kv_v C (c_X0_forget l D cI cZ (ad 12) (f_X0_continueTo (u 5) x1).2  ) (cwV 0 C.2.2.2.2.1 gX6_eraseTo_X0_forget rfl rfl rfl hdX0_forget ⟨Nat.le_of_ble_eq_true rfl, Nat.le_of_ble_eq_true rfl⟩) (ci := 0) (q0 := 0) rfl rfl rfl hP hD hS (sp_6_5 cI cZ ad (va_up u 5 (f_X0_continueTo (u 5) x1).2)) rfl hl.1 rfl (Nat.le_of_ble_eq_true rfl) dX6_eraseTo_39 ⟨Nat.zero_le _, Nat.zero_le _⟩ (fun H locs hP hD hS => ?_)
      refine lv_aload_n hx hb dX6_eraseTo_42 rfl (lv_at hl 0 rfl) ?_
      refine lv_bipush (v := 8) hx hb dX6_eraseTo_43 (by decide) ?_
      refine kv_i C (c_X6_refuse l D cI cZ ad (va_up (va_up u 5 (f_X0_continueTo (u 5) x1).2) 5 (f_X0_forget (f_X0_continueTo (u 5) x1).2)) 8 ) (cwV 1 C.2.2.2.2.1 gX6_eraseTo_X6_refuse rfl rfl rfl hdX6_refuse ⟨Nat.le_of_ble_eq_true rfl, Nat.le_of_ble_eq_true rfl⟩) (ci := 6) (q0 := 0) rfl rfl rfl hP hD hS (sp_self (fun u => (w_6 cI cZ ad u)) 15 (fun _ => rfl)) rfl hl.1 rfl (Nat.le_of_ble_eq_true rfl) dX6_eraseTo_45 ⟨Nat.zero_le _, Nat.zero_le _⟩ (fun H locs hP hD hS => ?_)
      exact rt_i C hr hlk hP hD hS ((if_neg c_1).trans ((if_pos c_3).trans rfl)) dX6_eraseTo_48
  · refine lv_aload_n hx hb dX6_eraseTo_11 rfl (lv_at hl 0 rfl) ?_
    refine gt6_4 C hP in_X6_eraseTo_6 ln_X6_eraseTo_2 dX6_eraseTo_12 ?_
    refine kv_v C (c_X0_forget l D cI cZ (ad 12) (u 5)  ) (cwV 0 C.2.2.2.2.1 gX6_eraseTo_X0_forget rfl rfl rfl hdX0_forget ⟨Nat.le_of_ble_eq_true rfl, Nat.le_of_ble_eq_true rfl⟩) (ci := 0) (q0 := 0) rfl rfl rfl hP hD hS (sp_6_5 cI cZ ad u) rfl hl.1 rfl (Nat.le_of_ble_eq_true rfl) dX6_eraseTo_15 ⟨Nat.zero_le _, Nat.zero_le _⟩ (fun H locs hP hD hS => ?_)
    refine lv_aload_n hx hb dX6_eraseTo_18 rfl (lv_at hl 0 rfl) ?_
    refine lv_iconst (v := 4) hx hb dX6_eraseTo_19 (by decide) ?_
    refine kv_i C (c_X6_refuse l D cI cZ ad (va_up u 5 (f_X0_forget (u 5))) 4 ) (cwV 1 C.2.2.2.2.1 gX6_eraseTo_X6_refuse rfl rfl rfl hdX6_refuse ⟨Nat.le_of_ble_eq_true rfl, Nat.le_of_ble_eq_true rfl⟩) (ci := 6) (q0 := 0) rfl rfl rfl hP hD hS (sp_self (fun u => (w_6 cI cZ ad u)) 15 (fun _ => rfl)) rfl hl.1 rfl (Nat.le_of_ble_eq_true rfl) dX6_eraseTo_20 ⟨Nat.zero_le _, Nat.zero_le _⟩ (fun H locs hP hD hS => ?_)
    exact rt_i C hr hlk hP hD hS ((if_pos c_1).trans rfl) dX6_eraseTo_23
theorem ln_X6_beginErasing_1 : Cond.fieldLink RX6 38 "BlockCard" "eraser" "LBlockCard$Eraser;" ∈ wsX6_beginErasing := List.mem_of_getElem? (i := 1) rfl
theorem in_X6_beginErasing_6 : ∀ w ∈ wsX60, w ∈ wsX6_beginErasing := fun w h => List.mem_cons_of_mem _ (List.mem_append_left _ (List.mem_append_right _ h))
theorem ln_X6_beginErasing_2 : Cond.fieldLink RX6 111 "BlockCard" "state" "I" ∈ wsX6_beginErasing := List.mem_of_getElem? (i := 2) rfl
set_option maxHeartbeats 4000000 in
set_option maxRecDepth 100000 in
theorem c_X6_beginErasing (l : Launch) (D : va_G) (cI cZ : ClassId) (ad : Nat → Nat) (u : cd_S) (x1 : Int32) (x2 : Int32)  : Ct_i l yX6_beginErasing wsX6_beginErasing ({ frames := 2, cells := 0, slots := 0, locals := 42 } : Room) D (ct_T cI cZ) [.ref (ad 0), .int x1, .int x2] (w_6 cI cZ ad u) (fun u => (w_6 cI cZ ad u)) (f_X6_beginErasing u x1 x2) := by
  refine en_i (cc := cX6_beginErasing) (maxL := 3) (ret := (some .int)) (own := RX6) (by decide +kernel) rfl rfl (Nat.le_of_ble_eq_true rfl) ?_
  intro p e s m args below meth c A ls C hr hlk hP hD hS hl
  have hx := C.1
  have hb := C.2.1
  have hl : lv_has ls 3 [(0, .ref (ad 0)), (1, .int x1), (2, .int x2)] := hl
  refine lv_aload_n hx hb dX6_beginErasing_0 rfl (lv_at hl 0 rfl) ?_
  refine gt6_4 C hP in_X6_beginErasing_6 ln_X6_beginErasing_1 dX6_beginErasing_1 ?_
  refine lv_iload_n hx hb dX6_beginErasing_4 rfl (lv_at hl 1 rfl) ?_
  refine lv_iload_n hx hb dX6_beginErasing_5 rfl (lv_at hl 2 rfl) ?_
  refine kv_v C (c_X0_begin l D cI cZ (ad 12) (u 5) x1 x2 ) (cwV 2 C.2.2.2.2.1 gX6_beginErasing_X0_begin rfl rfl rfl hdX0_begin ⟨Nat.le_of_ble_eq_true rfl, Nat.le_of_ble_eq_true rfl⟩) (ci := 0) (q0 := 0) rfl rfl rfl hP hD hS (sp_6_5 cI cZ ad u) rfl hl.1 rfl (Nat.le_of_ble_eq_true rfl) dX6_beginErasing_6 ⟨Nat.zero_le _, Nat.zero_le _⟩ (fun H locs hP hD hS => ?_)
  refine lv_aload_n hx hb dX6_beginErasing_9 rfl (lv_at hl 0 rfl) ?_
  refine lv_bipush (v := 7) hx hb dX6_beginErasing_10 (by decide) ?_
  refine pt6_12 C hP hD hS in_X6_beginErasing_6 ln_X6_beginErasing_2 dX6_beginErasing_12 (fun H locs hP hD hS => ?_)
  refine lv_aload_n hx hb dX6_beginErasing_15 rfl (lv_at hl 0 rfl) ?_
  refine gt6_4 C hP in_X6_beginErasing_6 ln_X6_beginErasing_1 dX6_beginErasing_16 ?_
  refine kv_p C (c_X0_groupsLeft l D cI cZ (ad 12) (f_X0_begin (u 5) x1 x2)  ) (cwV 0 C.2.2.2.2.1 gX6_beginErasing_X0_groupsLeft rfl rfl rfl hdX0_groupsLeft ⟨Nat.le_of_ble_eq_true rfl, Nat.le_of_ble_eq_true rfl⟩) (ci := 0) (q0 := 0) rfl rfl rfl hP hD hS (su_6_5 cI cZ ad (cd_i (va_up u 5 (f_X0_begin (u 5) x1 x2)) 12 7)) rfl hl.1 rfl (Nat.le_of_ble_eq_true rfl) dX6_beginErasing_19 ⟨Nat.zero_le _, Nat.zero_le _⟩ (fun H locs hP hS => ?_)
  exact rt_i C hr hlk hP hD hS rfl dX6_beginErasing_22
theorem ln_X6_erase_1 : Cond.fieldLink RX6 38 "BlockCard" "eraser" "LBlockCard$Eraser;" ∈ wsX6_erase := List.mem_of_getElem? (i := 1) rfl
theorem in_X6_erase_6 : ∀ w ∈ wsX60, w ∈ wsX6_erase := fun w h => List.mem_cons_of_mem _ (List.mem_append_left _ (List.mem_append_left _ (List.mem_append_right _ h)))
theorem ln_X6_erase_2 : Cond.fieldLink RX6 10 "BlockCard" "memory" "LBlockCard$Memory;" ∈ wsX6_erase := List.mem_of_getElem? (i := 2) rfl
set_option maxHeartbeats 4000000 in
set_option maxRecDepth 100000 in
theorem c_X6_erase (l : Launch) (D : va_G) (cI cZ : ClassId) (ad : Nat → Nat) (u : cd_S)  : Ct_i l yX6_erase wsX6_erase ({ frames := 3, cells := 0, slots := 0, locals := 64 } : Room) D (ct_T cI cZ) [.ref (ad 0)] (w_6 cI cZ ad u) (fun u => (w_6 cI cZ ad u)) (f_X6_erase u) := by
  refine en_i (cc := cX6_erase) (maxL := 1) (ret := (some .int)) (own := RX6) (by decide +kernel) rfl rfl (Nat.le_of_ble_eq_true rfl) ?_
  intro p e s m args below meth c A ls C hr hlk hP hD hS hl
  have hx := C.1
  have hb := C.2.1
  have hl : lv_has ls 1 [(0, .ref (ad 0))] := hl
  refine lv_aload_n hx hb dX6_erase_0 rfl (lv_at hl 0 rfl) ?_
  refine gt6_4 C hP in_X6_erase_6 ln_X6_erase_1 dX6_erase_1 ?_
  refine kv_p C (c_X0_isReady l D cI cZ (ad 12) (u 5)  ) (cwV 0 C.2.2.2.2.1 gX6_erase_X0_isReady rfl rfl rfl hdX0_isReady ⟨Nat.le_of_ble_eq_true rfl, Nat.le_of_ble_eq_true rfl⟩) (ci := 0) (q0 := 0) rfl rfl rfl hP hD hS (su_6_5 cI cZ ad u) rfl hl.1 rfl (Nat.le_of_ble_eq_true rfl) dX6_erase_4 ⟨Nat.zero_le _, Nat.zero_le _⟩ (fun H locs hP hS => ?_)
  refine lv_if_ne (tgt := 17) hx hb dX6_erase_7 (by decide) (fun c_1 => ?_) (fun c_1 => ?_)
  · refine lv_aload_n hx hb dX6_erase_17 rfl (lv_at hl 0 rfl) ?_
    refine lv_aload_n hx hb dX6_erase_18 rfl (lv_at hl 0 rfl) ?_
    refine gt6_0 C hP in_X6_erase_6 ln_X6_erase_2 dX6_erase_19 ?_
    refine lv_aload_n hx hb dX6_erase_22 rfl (lv_at hl 0 rfl) ?_
    refine gt6_4 C hP in_X6_erase_6 ln_X6_erase_1 dX6_erase_23 ?_
    refine kv_p C (c_X0_from l D cI cZ (ad 12) (u 5)  ) (cwV 0 C.2.2.2.2.1 gX6_erase_X0_from rfl rfl rfl hdX0_from ⟨Nat.le_of_ble_eq_true rfl, Nat.le_of_ble_eq_true rfl⟩) (ci := 0) (q0 := 0) rfl rfl rfl hP hD hS (su_6_5 cI cZ ad u) rfl hl.1 rfl (Nat.le_of_ble_eq_true rfl) dX6_erase_26 ⟨Nat.zero_le _, Nat.zero_le _⟩ (fun H locs hP hS => ?_)
    refine kv_p C (c_X3_groupOf l D cI cZ (ad 1) (ad 2) (ad 3) (ad 4) (u 1) (f_X0_from (u 5)) ) (cwV 1 C.2.2.2.2.1 gX6_erase_X3_groupOf rfl rfl rfl hdX3_groupOf ⟨Nat.le_of_ble_eq_true rfl, Nat.le_of_ble_eq_true rfl⟩) (ci := 3) (q0 := 0) rfl rfl rfl hP hD hS (su_6_1 cI cZ ad u) rfl hl.1 rfl (Nat.le_of_ble_eq_true rfl) dX6_erase_29 ⟨Nat.zero_le _, Nat.zero_le _⟩ (fun H locs hP hS => ?_)
    refine lv_aload_n hx hb dX6_erase_32 rfl (lv_at hl 0 rfl) ?_
    refine gt6_0 C hP in_X6_erase_6 ln_X6_erase_2 dX6_erase_33 ?_
    refine lv_aload_n hx hb dX6_erase_36 rfl (lv_at hl 0 rfl) ?_
    refine gt6_4 C hP in_X6_erase_6 ln_X6_erase_1 dX6_erase_37 ?_
    refine kv_p C (c_X0_to l D cI cZ (ad 12) (u 5)  ) (cwV 0 C.2.2.2.2.1 gX6_erase_X0_to rfl rfl rfl hdX0_to ⟨Nat.le_of_ble_eq_true rfl, Nat.le_of_ble_eq_true rfl⟩) (ci := 0) (q0 := 0) rfl rfl rfl hP hD hS (su_6_5 cI cZ ad u) rfl hl.1 rfl (Nat.le_of_ble_eq_true rfl) dX6_erase_40 ⟨Nat.zero_le _, Nat.zero_le _⟩ (fun H locs hP hS => ?_)
    refine kv_p C (c_X3_groupOf l D cI cZ (ad 1) (ad 2) (ad 3) (ad 4) (u 1) (f_X0_to (u 5)) ) (cwV 1 C.2.2.2.2.1 gX6_erase_X3_groupOf rfl rfl rfl hdX3_groupOf ⟨Nat.le_of_ble_eq_true rfl, Nat.le_of_ble_eq_true rfl⟩) (ci := 3) (q0 := 0) rfl rfl rfl hP hD hS (su_6_1 cI cZ ad u) rfl hl.1 rfl (Nat.le_of_ble_eq_true rfl) dX6_erase_43 ⟨Nat.zero_le _, Nat.zero_le _⟩ (fun H locs hP hS => ?_)
    refine kv_i C (c_X6_beginErasing l D cI cZ ad u (f_X3_groupOf (u 1) (f_X0_from (u 5))) (f_X3_groupOf (u 1) (f_X0_to (u 5))) ) (cwV 2 C.2.2.2.2.1 gX6_erase_X6_beginErasing rfl rfl rfl hdX6_beginErasing ⟨Nat.le_of_ble_eq_true rfl, Nat.le_of_ble_eq_true rfl⟩) (ci := 6) (q0 := 0) rfl rfl rfl hP hD hS (sp_self (fun u => (w_6 cI cZ ad u)) 15 (fun _ => rfl)) rfl hl.1 rfl (Nat.le_of_ble_eq_true rfl) dX6_erase_46 ⟨Nat.zero_le _, Nat.zero_le _⟩ (fun H locs hP hD hS => ?_)
    exact rt_i C hr hlk hP hD hS ((if_neg c_1).trans rfl) dX6_erase_49
  · refine lv_aload_n hx hb dX6_erase_10 rfl (lv_at hl 0 rfl) ?_
    refine lv_bipush (v := 8) hx hb dX6_erase_11 (by decide) ?_
    refine kv_i C (c_X6_refuse l D cI cZ ad u 8 ) (cwV 1 C.2.2.2.2.1 gX6_erase_X6_refuse rfl rfl rfl hdX6_refuse ⟨Nat.le_of_ble_eq_true rfl, Nat.le_of_ble_eq_true rfl⟩) (ci := 6) (q0 := 0) rfl rfl rfl hP hD hS (sp_self (fun u => (w_6 cI cZ ad u)) 15 (fun _ => rfl)) rfl hl.1 rfl (Nat.le_of_ble_eq_true rfl) dX6_erase_13 ⟨Nat.zero_le _, Nat.zero_le _⟩ (fun H locs hP hD hS => ?_)
    exact rt_i C hr hlk hP hD hS ((if_pos c_1).trans rfl) dX6_erase_16
theorem ln_X6_textIsSecret_1 : Cond.fieldLink RX6 25 "BlockCard" "secret" "LBlockCard$Letters;" ∈ wsX6_textIsSecret := List.mem_of_getElem? (i := 1) rfl
theorem in_X6_textIsSecret_6 : ∀ w ∈ wsX60, w ∈ wsX6_textIsSecret := fun w h => List.mem_cons_of_mem _ (List.mem_append_left _ (List.mem_append_right _ h))
theorem ln_X6_textIsSecret_2 : Cond.fieldLink RX6 21 "BlockCard" "text" "LBlockCard$Letters;" ∈ wsX6_textIsSecret := List.mem_of_getElem? (i := 2) rfl
set_option maxHeartbeats 4000000 in
set_option maxRecDepth 100000 in
theorem c_X6_textIsSecret (l : Launch) (D : va_G) (cI cZ : ClassId) (ad : Nat → Nat) (u : cd_S) (hA : pc_A u) : Ct_p l yX6_textIsSecret wsX6_textIsSecret ({ frames := 2, cells := 0, slots := 0, locals := 43 } : Room) D (ct_T cI cZ) [.ref (ad 0)] (w_6 cI cZ ad u) (f_X6_textIsSecret u) := by
  refine en_p (cc := cX6_textIsSecret) (maxL := 1) (ret := (some .boolean)) (own := RX6) (by decide +kernel) rfl rfl (Nat.le_of_ble_eq_true rfl) ?_
  intro p e s m args below meth c A ls C hr hlk hP hD hS hl
  have hx := C.1
  have hb := C.2.1
  have hl : lv_has ls 1 [(0, .ref (ad 0))] := hl
  refine lv_aload_n hx hb dX6_textIsSecret_0 rfl (lv_at hl 0 rfl) ?_
  refine gt6_2 C hP in_X6_textIsSecret_6 ln_X6_textIsSecret_1 dX6_textIsSecret_1 ?_
  refine kv_p C (c_X1_length l D cI cZ 8 (ad 7) (ad 8) (u 3)  ) (cwV 0 C.2.2.2.2.1 gX6_textIsSecret_X1_length rfl rfl rfl hdX1_length ⟨Nat.le_of_ble_eq_true rfl, Nat.le_of_ble_eq_true rfl⟩) (ci := 1) (q0 := 0) rfl rfl rfl hP hD hS (su_6_3 cI cZ ad u) rfl hl.1 rfl (Nat.le_of_ble_eq_true rfl) dX6_textIsSecret_4 ⟨Nat.zero_le _, Nat.zero_le _⟩ (fun H locs hP hS => ?_)
  refine lv_if_le (tgt := 45) hx hb dX6_textIsSecret_7 (by decide) (fun c_1 => ?_) (fun c_1 => ?_)
  · refine lv_iconst (v := 0) hx hb dX6_textIsSecret_45 (by decide) ?_
    exact rt_q C hr hlk (Or.inl rfl) hS ((if_pos c_1).trans rfl) dX6_textIsSecret_46
  · refine lv_aload_n hx hb dX6_textIsSecret_10 rfl (lv_at hl 0 rfl) ?_
    refine gt6_1 C hP in_X6_textIsSecret_6 ln_X6_textIsSecret_2 dX6_textIsSecret_11 ?_
    refine kv_p C (c_X1_length l D cI cZ 200 (ad 5) (ad 6) (u 2)  ) (cwV 0 C.2.2.2.2.1 gX6_textIsSecret_X1_length rfl rfl rfl hdX1_length ⟨Nat.le_of_ble_eq_true rfl, Nat.le_of_ble_eq_true rfl⟩) (ci := 1) (q0 := 0) rfl rfl rfl hP hD hS (su_6_2 cI cZ ad u) rfl hl.1 rfl (Nat.le_of_ble_eq_true rfl) dX6_textIsSecret_14 ⟨Nat.zero_le _, Nat.zero_le _⟩ (fun H locs hP hS => ?_)
    refine lv_aload_n hx hb dX6_textIsSecret_17 rfl (lv_at hl 0 rfl) ?_
    refine gt6_2 C hP in_X6_textIsSecret_6 ln_X6_textIsSecret_1 dX6_textIsSecret_18 ?_
    refine kv_p C (c_X1_length l D cI cZ 8 (ad 7) (ad 8) (u 3)  ) (cwV 0 C.2.2.2.2.1 gX6_textIsSecret_X1_length rfl rfl rfl hdX1_length ⟨Nat.le_of_ble_eq_true rfl, Nat.le_of_ble_eq_true rfl⟩) (ci := 1) (q0 := 0) rfl rfl rfl hP hD hS (su_6_3 cI cZ ad u) rfl hl.1 rfl (Nat.le_of_ble_eq_true rfl) dX6_textIsSecret_21 ⟨Nat.zero_le _, Nat.zero_le _⟩ (fun H locs hP hS => ?_)
    refine lv_icmp_ne (tgt := 45) hx hb dX6_textIsSecret_24 (by decide) (fun c_2 => ?_) (fun c_2 => ?_)
    · refine lv_iconst (v := 0) hx hb dX6_textIsSecret_45 (by decide) ?_
      exact rt_q C hr hlk (Or.inl rfl) hS ((if_neg c_1).trans ((if_neg c_2).trans rfl)) dX6_textIsSecret_46
    · refine lv_aload_n hx hb dX6_textIsSecret_27 rfl (lv_at hl 0 rfl) ?_
      refine gt6_1 C hP in_X6_textIsSecret_6 ln_X6_textIsSecret_2 dX6_textIsSecret_28 ?_
      refine lv_aload_n hx hb dX6_textIsSecret_31 rfl (lv_at hl 0 rfl) ?_
      refine gt6_2 C hP in_X6_textIsSecret_6 ln_X6_textIsSecret_1 dX6_textIsSecret_32 ?_
      refine kv_p C (c_X1_startsWith l D cI cZ 200 (ad 5) (ad 6) 8 (ad 7) (ad 8) (u 2) (u 3)  (by decide) (by decide) hA.2.1.2) (cwV 1 C.2.2.2.2.1 gX6_textIsSecret_X1_startsWith rfl rfl rfl hdX1_startsWith ⟨Nat.le_of_ble_eq_true rfl, Nat.le_of_ble_eq_true rfl⟩) (ci := 1) (q0 := 0) rfl rfl rfl hP hD hS (su_6_23 cI cZ ad u) rfl hl.1 rfl (Nat.le_of_ble_eq_true rfl) dX6_textIsSecret_35 ⟨Nat.zero_le _, Nat.zero_le _⟩ (fun H locs hP hS => ?_)
      refine lv_if_eq (tgt := 45) hx hb dX6_textIsSecret_38 (by decide) (fun c_3 => ?_) (fun c_3 => ?_)
      · refine lv_iconst (v := 0) hx hb dX6_textIsSecret_45 (by decide) ?_
        exact rt_q C hr hlk (Or.inl rfl) hS ((if_neg c_1).trans ((if_pos c_2).trans ((if_pos c_3).trans rfl))) dX6_textIsSecret_46
      · refine lv_iconst (v := 1) hx hb dX6_textIsSecret_41 (by decide) ?_
        refine lv_goto (tgt := 46) hx hb dX6_textIsSecret_42 (by decide) ?_
        exact rt_q C hr hlk (Or.inr rfl) hS ((if_neg c_1).trans ((if_pos c_2).trans ((if_neg c_3).trans rfl))) dX6_textIsSecret_46
theorem ln_X6_unlock_1 : Cond.fieldLink RX6 197 "BlockCard" "locked" "Z" ∈ wsX6_unlock := List.mem_of_getElem? (i := 1) rfl
theorem in_X6_unlock_6 : ∀ w ∈ wsX60, w ∈ wsX6_unlock := fun w h => List.mem_cons_of_mem _ (List.mem_append_left _ (List.mem_append_right _ h))
set_option maxHeartbeats 4000000 in
set_option maxRecDepth 100000 in
theorem c_X6_unlock (l : Launch) (D : va_G) (cI cZ : ClassId) (ad : Nat → Nat) (u : cd_S) (hA : pc_A u) : Ct_i l yX6_unlock wsX6_unlock ({ frames := 3, cells := 0, slots := 0, locals := 63 } : Room) D (ct_T cI cZ) [.ref (ad 0)] (w_6 cI cZ ad u) (fun u => (w_6 cI cZ ad u)) (f_X6_unlock u) := by
  refine en_i (cc := cX6_unlock) (maxL := 1) (ret := (some .int)) (own := RX6) (by decide +kernel) rfl rfl (Nat.le_of_ble_eq_true rfl) ?_
  intro p e s m args below meth c A ls C hr hlk hP hD hS hl
  have hx := C.1
  have hb := C.2.1
  have hl : lv_has ls 1 [(0, .ref (ad 0))] := hl
  refine lv_aload_n hx hb dX6_unlock_0 rfl (lv_at hl 0 rfl) ?_
  refine gt6_16 C hP in_X6_unlock_6 ln_X6_unlock_1 (v := ((u 0).1 16)) rfl dX6_unlock_1 ?_
  refine lv_if_eq (tgt := 14) hx hb dX6_unlock_4 (by decide) (fun c_1 => ?_) (fun c_1 => ?_)
  · refine lv_aload_n hx hb dX6_unlock_14 rfl (lv_at hl 0 rfl) ?_
    refine lv_bipush (v := 16) hx hb dX6_unlock_15 (by decide) ?_
    refine kv_i C (c_X6_refuse l D cI cZ ad u 16 ) (cwV 1 C.2.2.2.2.1 gX6_unlock_X6_refuse rfl rfl rfl hdX6_refuse ⟨Nat.le_of_ble_eq_true rfl, Nat.le_of_ble_eq_true rfl⟩) (ci := 6) (q0 := 0) rfl rfl rfl hP hD hS (sp_self (fun u => (w_6 cI cZ ad u)) 15 (fun _ => rfl)) rfl hl.1 rfl (Nat.le_of_ble_eq_true rfl) dX6_unlock_17 ⟨Nat.zero_le _, Nat.zero_le _⟩ (fun H locs hP hD hS => ?_)
    exact rt_i C hr hlk hP hD hS ((if_pos c_1).trans rfl) dX6_unlock_20
  · refine lv_aload_n hx hb dX6_unlock_7 rfl (lv_at hl 0 rfl) ?_
    refine kv_p C (c_X6_textIsSecret l D cI cZ ad u  hA) (cwV 0 C.2.2.2.2.1 gX6_unlock_X6_textIsSecret rfl rfl rfl hdX6_textIsSecret ⟨Nat.le_of_ble_eq_true rfl, Nat.le_of_ble_eq_true rfl⟩) (ci := 6) (q0 := 0) rfl rfl rfl hP hD hS (su_self _) rfl hl.1 rfl (Nat.le_of_ble_eq_true rfl) dX6_unlock_8 ⟨Nat.zero_le _, Nat.zero_le _⟩ (fun H locs hP hS => ?_)
    refine lv_if_ne (tgt := 21) hx hb dX6_unlock_11 (by decide) (fun c_3 => ?_) (fun c_3 => ?_)
    · refine lv_aload_n hx hb dX6_unlock_21 rfl (lv_at hl 0 rfl) ?_
      refine lv_iconst (v := 0) hx hb dX6_unlock_22 (by decide) ?_
      refine pt6_16 C hP hD hS in_X6_unlock_6 ln_X6_unlock_1 (Or.inl rfl) dX6_unlock_23 (fun H locs hP hD hS => ?_)
      refine lv_iconst (v := 1) hx hb dX6_unlock_26 (by decide) ?_
      exact rt_i C hr hlk hP hD hS ((if_neg c_1).trans ((if_neg c_3).trans rfl)) dX6_unlock_27
    · refine lv_aload_n hx hb dX6_unlock_14 rfl (lv_at hl 0 rfl) ?_
      refine lv_bipush (v := 16) hx hb dX6_unlock_15 (by decide) ?_
      refine kv_i C (c_X6_refuse l D cI cZ ad u 16 ) (cwV 1 C.2.2.2.2.1 gX6_unlock_X6_refuse rfl rfl rfl hdX6_refuse ⟨Nat.le_of_ble_eq_true rfl, Nat.le_of_ble_eq_true rfl⟩) (ci := 6) (q0 := 0) rfl rfl rfl hP hD hS (sp_self (fun u => (w_6 cI cZ ad u)) 15 (fun _ => rfl)) rfl hl.1 rfl (Nat.le_of_ble_eq_true rfl) dX6_unlock_17 ⟨Nat.zero_le _, Nat.zero_le _⟩ (fun H locs hP hD hS => ?_)
      exact rt_i C hr hlk hP hD hS ((if_neg c_1).trans ((if_pos c_3).trans rfl)) dX6_unlock_20
theorem ln_X6_clearSecret_1 : Cond.fieldLink RX6 197 "BlockCard" "locked" "Z" ∈ wsX6_clearSecret := List.mem_of_getElem? (i := 1) rfl
theorem in_X6_clearSecret_6 : ∀ w ∈ wsX60, w ∈ wsX6_clearSecret := fun w h => List.mem_cons_of_mem _ (List.mem_append_left _ (List.mem_append_right _ h))
theorem ln_X6_clearSecret_2 : Cond.fieldLink RX6 25 "BlockCard" "secret" "LBlockCard$Letters;" ∈ wsX6_clearSecret := List.mem_of_getElem? (i := 2) rfl
set_option maxHeartbeats 4000000 in
set_option maxRecDepth 100000 in
theorem c_X6_clearSecret (l : Launch) (D : va_G) (cI cZ : ClassId) (ad : Nat → Nat) (u : cd_S) (hA : pc_A u) : Ct_i l yX6_clearSecret wsX6_clearSecret ({ frames := 3, cells := 0, slots := 0, locals := 63 } : Room) D (ct_T cI cZ) [.ref (ad 0)] (w_6 cI cZ ad u) (fun u => (w_6 cI cZ ad u)) (f_X6_clearSecret u) := by
  refine en_i (cc := cX6_clearSecret) (maxL := 1) (ret := (some .int)) (own := RX6) (by decide +kernel) rfl rfl (Nat.le_of_ble_eq_true rfl) ?_
  intro p e s m args below meth c A ls C hr hlk hP hD hS hl
  have hx := C.1
  have hb := C.2.1
  have hl : lv_has ls 1 [(0, .ref (ad 0))] := hl
  refine lv_aload_n hx hb dX6_clearSecret_0 rfl (lv_at hl 0 rfl) ?_
  refine gt6_16 C hP in_X6_clearSecret_6 ln_X6_clearSecret_1 (v := ((u 0).1 16)) rfl dX6_clearSecret_1 ?_
  refine lv_if_ne (tgt := 14) hx hb dX6_clearSecret_4 (by decide) (fun c_1 => ?_) (fun c_1 => ?_)
  · refine lv_aload_n hx hb dX6_clearSecret_14 rfl (lv_at hl 0 rfl) ?_
    refine lv_bipush (v := 16) hx hb dX6_clearSecret_15 (by decide) ?_
    refine kv_i C (c_X6_refuse l D cI cZ ad u 16 ) (cwV 1 C.2.2.2.2.1 gX6_clearSecret_X6_refuse rfl rfl rfl hdX6_refuse ⟨Nat.le_of_ble_eq_true rfl, Nat.le_of_ble_eq_true rfl⟩) (ci := 6) (q0 := 0) rfl rfl rfl hP hD hS (sp_self (fun u => (w_6 cI cZ ad u)) 15 (fun _ => rfl)) rfl hl.1 rfl (Nat.le_of_ble_eq_true rfl) dX6_clearSecret_17 ⟨Nat.zero_le _, Nat.zero_le _⟩ (fun H locs hP hD hS => ?_)
    exact rt_i C hr hlk hP hD hS ((if_neg c_1).trans rfl) dX6_clearSecret_20
  · refine lv_aload_n hx hb dX6_clearSecret_7 rfl (lv_at hl 0 rfl) ?_
    refine kv_p C (c_X6_textIsSecret l D cI cZ ad u  hA) (cwV 0 C.2.2.2.2.1 gX6_clearSecret_X6_textIsSecret rfl rfl rfl hdX6_textIsSecret ⟨Nat.le_of_ble_eq_true rfl, Nat.le_of_ble_eq_true rfl⟩) (ci := 6) (q0 := 0) rfl rfl rfl hP hD hS (su_self _) rfl hl.1 rfl (Nat.le_of_ble_eq_true rfl) dX6_clearSecret_8 ⟨Nat.zero_le _, Nat.zero_le _⟩ (fun H locs hP hS => ?_)
    refine lv_if_ne (tgt := 21) hx hb dX6_clearSecret_11 (by decide) (fun c_3 => ?_) (fun c_3 => ?_)
    · refine lv_aload_n hx hb dX6_clearSecret_21 rfl (lv_at hl 0 rfl) ?_
      refine gt6_2 C hP in_X6_clearSecret_6 ln_X6_clearSecret_2 dX6_clearSecret_22 ?_
      refine kv_v C (c_X1_empty l D cI cZ 8 (ad 7) (ad 8) (u 3)  ) (cwV 0 C.2.2.2.2.1 gX6_clearSecret_X1_empty rfl rfl rfl hdX1_empty ⟨Nat.le_of_ble_eq_true rfl, Nat.le_of_ble_eq_true rfl⟩) (ci := 1) (q0 := 0) rfl rfl rfl hP hD hS (sp_6_3 cI cZ ad u) rfl hl.1 rfl (Nat.le_of_ble_eq_true rfl) dX6_clearSecret_25 ⟨Nat.zero_le _, Nat.zero_le _⟩ (fun H locs hP hD hS => ?_)
      refine lv_iconst (v := 1) hx hb dX6_clearSecret_28 (by decide) ?_
      exact rt_i C hr hlk hP hD hS ((if_pos c_1).trans ((if_neg c_3).trans rfl)) dX6_clearSecret_29
    · refine lv_aload_n hx hb dX6_clearSecret_14 rfl (lv_at hl 0 rfl) ?_
      refine lv_bipush (v := 16) hx hb dX6_clearSecret_15 (by decide) ?_
      refine kv_i C (c_X6_refuse l D cI cZ ad u 16 ) (cwV 1 C.2.2.2.2.1 gX6_clearSecret_X6_refuse rfl rfl rfl hdX6_refuse ⟨Nat.le_of_ble_eq_true rfl, Nat.le_of_ble_eq_true rfl⟩) (ci := 6) (q0 := 0) rfl rfl rfl hP hD hS (sp_self (fun u => (w_6 cI cZ ad u)) 15 (fun _ => rfl)) rfl hl.1 rfl (Nat.le_of_ble_eq_true rfl) dX6_clearSecret_17 ⟨Nat.zero_le _, Nat.zero_le _⟩ (fun H locs hP hD hS => ?_)
      exact rt_i C hr hlk hP hD hS ((if_pos c_1).trans ((if_pos c_3).trans rfl)) dX6_clearSecret_20
theorem ln_X6_lock_1 : Cond.fieldLink RX6 197 "BlockCard" "locked" "Z" ∈ wsX6_lock := List.mem_of_getElem? (i := 1) rfl
theorem in_X6_lock_6 : ∀ w ∈ wsX60, w ∈ wsX6_lock := fun w h => List.mem_cons_of_mem _ (List.mem_append_left _ (List.mem_append_right _ h))
set_option maxHeartbeats 4000000 in
set_option maxRecDepth 100000 in
theorem c_X6_lock (l : Launch) (D : va_G) (cI cZ : ClassId) (ad : Nat → Nat) (u : cd_S) (hA : pc_A u) : Ct_i l yX6_lock wsX6_lock ({ frames := 3, cells := 0, slots := 0, locals := 63 } : Room) D (ct_T cI cZ) [.ref (ad 0)] (w_6 cI cZ ad u) (fun u => (w_6 cI cZ ad u)) (f_X6_lock u) := by
  refine en_i (cc := cX6_lock) (maxL := 1) (ret := (some .int)) (own := RX6) (by decide +kernel) rfl rfl (Nat.le_of_ble_eq_true rfl) ?_
  intro p e s m args below meth c A ls C hr hlk hP hD hS hl
  have hx := C.1
  have hb := C.2.1
  have hl : lv_has ls 1 [(0, .ref (ad 0))] := hl
  refine lv_aload_n hx hb dX6_lock_0 rfl (lv_at hl 0 rfl) ?_
  refine gt6_16 C hP in_X6_lock_6 ln_X6_lock_1 (v := ((u 0).1 16)) rfl dX6_lock_1 ?_
  refine lv_if_ne (tgt := 14) hx hb dX6_lock_4 (by decide) (fun c_1 => ?_) (fun c_1 => ?_)
  · refine lv_aload_n hx hb dX6_lock_14 rfl (lv_at hl 0 rfl) ?_
    refine lv_bipush (v := 16) hx hb dX6_lock_15 (by decide) ?_
    refine kv_i C (c_X6_refuse l D cI cZ ad u 16 ) (cwV 1 C.2.2.2.2.1 gX6_lock_X6_refuse rfl rfl rfl hdX6_refuse ⟨Nat.le_of_ble_eq_true rfl, Nat.le_of_ble_eq_true rfl⟩) (ci := 6) (q0 := 0) rfl rfl rfl hP hD hS (sp_self (fun u => (w_6 cI cZ ad u)) 15 (fun _ => rfl)) rfl hl.1 rfl (Nat.le_of_ble_eq_true rfl) dX6_lock_17 ⟨Nat.zero_le _, Nat.zero_le _⟩ (fun H locs hP hD hS => ?_)
    exact rt_i C hr hlk hP hD hS ((if_neg c_1).trans rfl) dX6_lock_20
  · refine lv_aload_n hx hb dX6_lock_7 rfl (lv_at hl 0 rfl) ?_
    refine kv_p C (c_X6_textIsSecret l D cI cZ ad u  hA) (cwV 0 C.2.2.2.2.1 gX6_lock_X6_textIsSecret rfl rfl rfl hdX6_textIsSecret ⟨Nat.le_of_ble_eq_true rfl, Nat.le_of_ble_eq_true rfl⟩) (ci := 6) (q0 := 0) rfl rfl rfl hP hD hS (su_self _) rfl hl.1 rfl (Nat.le_of_ble_eq_true rfl) dX6_lock_8 ⟨Nat.zero_le _, Nat.zero_le _⟩ (fun H locs hP hS => ?_)
    refine lv_if_ne (tgt := 21) hx hb dX6_lock_11 (by decide) (fun c_3 => ?_) (fun c_3 => ?_)
    · refine lv_aload_n hx hb dX6_lock_21 rfl (lv_at hl 0 rfl) ?_
      refine lv_iconst (v := 1) hx hb dX6_lock_22 (by decide) ?_
      refine pt6_16 C hP hD hS in_X6_lock_6 ln_X6_lock_1 (Or.inr rfl) dX6_lock_23 (fun H locs hP hD hS => ?_)
      refine lv_iconst (v := 1) hx hb dX6_lock_26 (by decide) ?_
      exact rt_i C hr hlk hP hD hS ((if_pos c_1).trans ((if_neg c_3).trans rfl)) dX6_lock_27
    · refine lv_aload_n hx hb dX6_lock_14 rfl (lv_at hl 0 rfl) ?_
      refine lv_bipush (v := 16) hx hb dX6_lock_15 (by decide) ?_
      refine kv_i C (c_X6_refuse l D cI cZ ad u 16 ) (cwV 1 C.2.2.2.2.1 gX6_lock_X6_refuse rfl rfl rfl hdX6_refuse ⟨Nat.le_of_ble_eq_true rfl, Nat.le_of_ble_eq_true rfl⟩) (ci := 6) (q0 := 0) rfl rfl rfl hP hD hS (sp_self (fun u => (w_6 cI cZ ad u)) 15 (fun _ => rfl)) rfl hl.1 rfl (Nat.le_of_ble_eq_true rfl) dX6_lock_17 ⟨Nat.zero_le _, Nat.zero_le _⟩ (fun H locs hP hD hS => ?_)
      exact rt_i C hr hlk hP hD hS ((if_pos c_1).trans ((if_pos c_3).trans rfl)) dX6_lock_20
theorem ln_X6_force_1 : Cond.fieldLink RX6 197 "BlockCard" "locked" "Z" ∈ wsX6_force := List.mem_of_getElem? (i := 1) rfl
theorem in_X6_force_6 : ∀ w ∈ wsX60, w ∈ wsX6_force := fun w h => List.mem_cons_of_mem _ (List.mem_append_left _ (List.mem_append_left _ (List.mem_append_left _ (List.mem_append_right _ h))))
theorem ln_X6_force_2 : Cond.fieldLink RX6 25 "BlockCard" "secret" "LBlockCard$Letters;" ∈ wsX6_force := List.mem_of_getElem? (i := 2) rfl
theorem ln_X6_force_3 : Cond.fieldLink RX6 10 "BlockCard" "memory" "LBlockCard$Memory;" ∈ wsX6_force := List.mem_of_getElem? (i := 3) rfl
set_option maxHeartbeats 4000000 in
set_option maxRecDepth 100000 in
theorem c_X6_force (l : Launch) (D : va_G) (cI cZ : ClassId) (ad : Nat → Nat) (u : cd_S)  : Ct_i l yX6_force wsX6_force ({ frames := 3, cells := 0, slots := 0, locals := 64 } : Room) D (ct_T cI cZ) [.ref (ad 0)] (w_6 cI cZ ad u) (fun u => (w_6 cI cZ ad u)) (f_X6_force u) := by
  refine en_i (cc := cX6_force) (maxL := 1) (ret := (some .int)) (own := RX6) (by decide +kernel) rfl rfl (Nat.le_of_ble_eq_true rfl) ?_
  intro p e s m args below meth c A ls C hr hlk hP hD hS hl
  have hx := C.1
  have hb := C.2.1
  have hl : lv_has ls 1 [(0, .ref (ad 0))] := hl
  refine lv_aload_n hx hb dX6_force_0 rfl (lv_at hl 0 rfl) ?_
  refine gt6_16 C hP in_X6_force_6 ln_X6_force_1 (v := ((u 0).1 16)) rfl dX6_force_1 ?_
  refine lv_if_ne (tgt := 14) hx hb dX6_force_4 (by decide) (fun c_1 => ?_) (fun c_1 => ?_)
  · refine lv_aload_n hx hb dX6_force_14 rfl (lv_at hl 0 rfl) ?_
    refine gt6_2 C hP in_X6_force_6 ln_X6_force_2 dX6_force_15 ?_
    refine kv_v C (c_X1_empty l D cI cZ 8 (ad 7) (ad 8) (u 3)  ) (cwV 0 C.2.2.2.2.1 gX6_force_X1_empty rfl rfl rfl hdX1_empty ⟨Nat.le_of_ble_eq_true rfl, Nat.le_of_ble_eq_true rfl⟩) (ci := 1) (q0 := 0) rfl rfl rfl hP hD hS (sp_6_3 cI cZ ad u) rfl hl.1 rfl (Nat.le_of_ble_eq_true rfl) dX6_force_18 ⟨Nat.zero_le _, Nat.zero_le _⟩ (fun H locs hP hD hS => ?_)
    refine lv_aload_n hx hb dX6_force_21 rfl (lv_at hl 0 rfl) ?_
    refine lv_iconst (v := 0) hx hb dX6_force_22 (by decide) ?_
    refine pt6_16 C hP hD hS in_X6_force_6 ln_X6_force_1 (Or.inl rfl) dX6_force_23 (fun H locs hP hD hS => ?_)
    refine lv_aload_n hx hb dX6_force_26 rfl (lv_at hl 0 rfl) ?_
    refine lv_iconst (v := 0) hx hb dX6_force_27 (by decide) ?_
    refine lv_aload_n hx hb dX6_force_28 rfl (lv_at hl 0 rfl) ?_
    refine gt6_0 C hP in_X6_force_6 ln_X6_force_3 dX6_force_29 ?_
    refine lv_aload_n hx hb dX6_force_32 rfl (lv_at hl 0 rfl) ?_
    refine gt6_0 C hP in_X6_force_6 ln_X6_force_3 dX6_force_33 ?_
    refine kv_p C (c_X3_size l D cI cZ (ad 1) (ad 2) (ad 3) (ad 4) (u 1)  ) (cwV 0 C.2.2.2.2.1 gX6_force_X3_size rfl rfl rfl hdX3_size ⟨Nat.le_of_ble_eq_true rfl, Nat.le_of_ble_eq_true rfl⟩) (ci := 3) (q0 := 0) rfl rfl rfl hP hD hS (su_6_1 cI cZ ad (cd_i (va_up u 3 (f_X1_empty 8 (u 3))) 16 0)) rfl hl.1 rfl (Nat.le_of_ble_eq_true rfl) dX6_force_36 ⟨Nat.zero_le _, Nat.zero_le _⟩ (fun H locs hP hS => ?_)
    refine lv_iconst (v := 1) hx hb dX6_force_39 (by decide) ?_
    refine lv_isub hx hb dX6_force_40 ?_
    refine kv_p C (c_X3_groupOf l D cI cZ (ad 1) (ad 2) (ad 3) (ad 4) (u 1) ((f_X3_size (u 1)) - 1) ) (cwV 1 C.2.2.2.2.1 gX6_force_X3_groupOf rfl rfl rfl hdX3_groupOf ⟨Nat.le_of_ble_eq_true rfl, Nat.le_of_ble_eq_true rfl⟩) (ci := 3) (q0 := 0) rfl rfl rfl hP hD hS (su_6_1 cI cZ ad (cd_i (va_up u 3 (f_X1_empty 8 (u 3))) 16 0)) rfl hl.1 rfl (Nat.le_of_ble_eq_true rfl) dX6_force_41 ⟨Nat.zero_le _, Nat.zero_le _⟩ (fun H locs hP hS => ?_)
    refine kv_i C (c_X6_beginErasing l D cI cZ ad (cd_i (va_up u 3 (f_X1_empty 8 (u 3))) 16 0) 0 (f_X3_groupOf (u 1) ((f_X3_size (u 1)) - 1)) ) (cwV 2 C.2.2.2.2.1 gX6_force_X6_beginErasing rfl rfl rfl hdX6_beginErasing ⟨Nat.le_of_ble_eq_true rfl, Nat.le_of_ble_eq_true rfl⟩) (ci := 6) (q0 := 0) rfl rfl rfl hP hD hS (sp_self (fun u => (w_6 cI cZ ad u)) 15 (fun _ => rfl)) rfl hl.1 rfl (Nat.le_of_ble_eq_true rfl) dX6_force_44 ⟨Nat.zero_le _, Nat.zero_le _⟩ (fun H locs hP hD hS => ?_)
    exact rt_i C hr hlk hP hD hS ((if_neg c_1).trans rfl) dX6_force_47
  · refine lv_aload_n hx hb dX6_force_7 rfl (lv_at hl 0 rfl) ?_
    refine lv_bipush (v := 16) hx hb dX6_force_8 (by decide) ?_
    refine kv_i C (c_X6_refuse l D cI cZ ad u 16 ) (cwV 1 C.2.2.2.2.1 gX6_force_X6_refuse rfl rfl rfl hdX6_refuse ⟨Nat.le_of_ble_eq_true rfl, Nat.le_of_ble_eq_true rfl⟩) (ci := 6) (q0 := 0) rfl rfl rfl hP hD hS (sp_self (fun u => (w_6 cI cZ ad u)) 15 (fun _ => rfl)) rfl hl.1 rfl (Nat.le_of_ble_eq_true rfl) dX6_force_10 ⟨Nat.zero_le _, Nat.zero_le _⟩ (fun H locs hP hD hS => ?_)
    exact rt_i C hr hlk hP hD hS ((if_pos c_1).trans rfl) dX6_force_13
theorem ln_X6_writeFurther_1 : Cond.fieldLink RX6 31 "BlockCard" "queue" "LBlockCard$Queue;" ∈ wsX6_writeFurther := List.mem_of_getElem? (i := 1) rfl
theorem in_X6_writeFurther_6 : ∀ w ∈ wsX60, w ∈ wsX6_writeFurther := fun w h => List.mem_cons_of_mem _ (List.mem_append_left _ (List.mem_append_left _ (List.mem_append_left _ (List.mem_append_right _ h))))
theorem ln_X6_writeFurther_2 : Cond.fieldLink RX6 52 "BlockCard" "link" "LBlockCard$Link;" ∈ wsX6_writeFurther := List.mem_of_getElem? (i := 2) rfl
theorem ln_X6_writeFurther_3 : Cond.fieldLink RX6 10 "BlockCard" "memory" "LBlockCard$Memory;" ∈ wsX6_writeFurther := List.mem_of_getElem? (i := 3) rfl
theorem ln_X6_writeFurther_4 : Cond.fieldLink RX6 204 "BlockCard" "well" "I" ∈ wsX6_writeFurther := List.mem_of_getElem? (i := 4) rfl
set_option maxHeartbeats 4000000 in
set_option maxRecDepth 100000 in
theorem c_X6_writeFurther (l : Launch) (D : va_G) (cI cZ : ClassId) (ad : Nat → Nat) (u : cd_S) (hz : ((u 1).1 4).toInt ≤ 64) : Ct_v l yX6_writeFurther wsX6_writeFurther ({ frames := 2, cells := 0, slots := 0, locals := 46 } : Room) D (ct_T cI cZ) [.ref (ad 0)] (w_6 cI cZ ad u) (fun u => (w_6 cI cZ ad u)) (f_X6_writeFurther u) := by
  refine en_v (cc := cX6_writeFurther) (maxL := 1) (ret := none) (own := RX6) (by decide +kernel) rfl rfl (Nat.le_of_ble_eq_true rfl) ?_
  intro p e s m args below meth c A ls C hr hlk hP hD hS hl
  have hx := C.1
  have hb := C.2.1
  have hl : lv_has ls 1 [(0, .ref (ad 0))] := hl
  refine lv_aload_n hx hb dX6_writeFurther_0 rfl (lv_at hl 0 rfl) ?_
  refine gt6_3 C hP in_X6_writeFurther_6 ln_X6_writeFurther_1 dX6_writeFurther_1 ?_
  refine kv_v C (c_X4_tickFirst l D cI cZ (ad 9) (ad 10) (ad 11) (u 4)  ) (cwV 0 C.2.2.2.2.1 gX6_writeFurther_X4_tickFirst rfl rfl rfl hdX4_tickFirst ⟨Nat.le_of_ble_eq_true rfl, Nat.le_of_ble_eq_true rfl⟩) (ci := 4) (q0 := 0) rfl rfl rfl hP hD hS (sp_6_4 cI cZ ad u) rfl hl.1 rfl (Nat.le_of_ble_eq_true rfl) dX6_writeFurther_4 ⟨Nat.zero_le _, Nat.zero_le _⟩ (fun H locs hP hD hS => ?_)
  refine lv_aload_n hx hb dX6_writeFurther_7 rfl (lv_at hl 0 rfl) ?_
  refine gt6_3 C hP in_X6_writeFurther_6 ln_X6_writeFurther_1 dX6_writeFurther_8 ?_
  refine lv_iconst (v := 0) hx hb dX6_writeFurther_11 (by decide) ?_
  refine lv_iconst (v := 2) hx hb dX6_writeFurther_12 (by decide) ?_
  refine kv_p C (c_X4_tellOf l D cI cZ (ad 9) (ad 10) (ad 11) (f_X4_tickFirst (u 4)) 0 2 ) (cwV 2 C.2.2.2.2.1 gX6_writeFurther_X4_tellOf rfl rfl rfl hdX4_tellOf ⟨Nat.le_of_ble_eq_true rfl, Nat.le_of_ble_eq_true rfl⟩) (ci := 4) (q0 := 0) rfl rfl rfl hP hD hS (su_6_4 cI cZ ad (va_up u 4 (f_X4_tickFirst (u 4)))) rfl hl.1 rfl (Nat.le_of_ble_eq_true rfl) dX6_writeFurther_13 ⟨Nat.zero_le _, Nat.zero_le _⟩ (fun H locs hP hS => ?_)
  refine lv_aload_n hx hb dX6_writeFurther_16 rfl (lv_at hl 0 rfl) ?_
  refine gt6_6 C hP in_X6_writeFurther_6 ln_X6_writeFurther_2 dX6_writeFurther_17 ?_
  refine kv_p C (c_X2_ticksOfBlock l D cI cZ (ad 14) (u 7)  ) (cwV 0 C.2.2.2.2.1 gX6_writeFurther_X2_ticksOfBlock rfl rfl rfl hdX2_ticksOfBlock ⟨Nat.le_of_ble_eq_true rfl, Nat.le_of_ble_eq_true rfl⟩) (ci := 2) (q0 := 0) rfl rfl rfl hP hD hS (su_6_7 cI cZ ad (va_up u 4 (f_X4_tickFirst (u 4)))) rfl hl.1 rfl (Nat.le_of_ble_eq_true rfl) dX6_writeFurther_20 ⟨Nat.zero_le _, Nat.zero_le _⟩ (fun H locs hP hS => ?_)
  refine lv_icmp_ge (tgt := 27) hx hb dX6_writeFurther_23 (by decide) (fun c_2 => ?_) (fun c_2 => ?_)
  · refine lv_aload_n hx hb dX6_writeFurther_27 rfl (lv_at hl 0 rfl) ?_
    refine gt6_0 C hP in_X6_writeFurther_6 ln_X6_writeFurther_3 dX6_writeFurther_28 ?_
    refine lv_aload_n hx hb dX6_writeFurther_31 rfl (lv_at hl 0 rfl) ?_
    refine gt6_3 C hP in_X6_writeFurther_6 ln_X6_writeFurther_1 dX6_writeFurther_32 ?_
    refine lv_iconst (v := 0) hx hb dX6_writeFurther_35 (by decide) ?_
    refine lv_iconst (v := 0) hx hb dX6_writeFurther_36 (by decide) ?_
    refine kv_p C (c_X4_tellOf l D cI cZ (ad 9) (ad 10) (ad 11) (f_X4_tickFirst (u 4)) 0 0 ) (cwV 2 C.2.2.2.2.1 gX6_writeFurther_X4_tellOf rfl rfl rfl hdX4_tellOf ⟨Nat.le_of_ble_eq_true rfl, Nat.le_of_ble_eq_true rfl⟩) (ci := 4) (q0 := 0) rfl rfl rfl hP hD hS (su_6_4 cI cZ ad (va_up u 4 (f_X4_tickFirst (u 4)))) rfl hl.1 rfl (Nat.le_of_ble_eq_true rfl) dX6_writeFurther_37 ⟨Nat.zero_le _, Nat.zero_le _⟩ (fun H locs hP hS => ?_)
    refine lv_aload_n hx hb dX6_writeFurther_40 rfl (lv_at hl 0 rfl) ?_
    refine gt6_3 C hP in_X6_writeFurther_6 ln_X6_writeFurther_1 dX6_writeFurther_41 ?_
    refine lv_iconst (v := 0) hx hb dX6_writeFurther_44 (by decide) ?_
    refine lv_iconst (v := 1) hx hb dX6_writeFurther_45 (by decide) ?_
    refine kv_p C (c_X4_tellOf l D cI cZ (ad 9) (ad 10) (ad 11) (f_X4_tickFirst (u 4)) 0 1 ) (cwV 2 C.2.2.2.2.1 gX6_writeFurther_X4_tellOf rfl rfl rfl hdX4_tellOf ⟨Nat.le_of_ble_eq_true rfl, Nat.le_of_ble_eq_true rfl⟩) (ci := 4) (q0 := 0) rfl rfl rfl hP hD hS (su_6_4 cI cZ ad (va_up u 4 (f_X4_tickFirst (u 4)))) rfl hl.1 rfl (Nat.le_of_ble_eq_true rfl) dX6_writeFurther_46 ⟨Nat.zero_le _, Nat.zero_le _⟩ (fun H locs hP hS => ?_)
    refine kv_v C (c_X3_put l D cI cZ (ad 1) (ad 2) (ad 3) (ad 4) (u 1) (f_X4_tellOf (f_X4_tickFirst (u 4)) 0 0) (f_X4_tellOf (f_X4_tickFirst (u 4)) 0 1) hz) (cwV 2 C.2.2.2.2.1 gX6_writeFurther_X3_put rfl rfl rfl hdX3_put ⟨Nat.le_of_ble_eq_true rfl, Nat.le_of_ble_eq_true rfl⟩) (ci := 3) (q0 := 0) rfl rfl rfl hP hD hS (sp_6_1 cI cZ ad (va_up u 4 (f_X4_tickFirst (u 4)))) rfl hl.1 rfl (Nat.le_of_ble_eq_true rfl) dX6_writeFurther_49 ⟨Nat.zero_le _, Nat.zero_le _⟩ (fun H locs hP hD hS => ?_)
    refine lv_aload_n hx hb dX6_writeFurther_52 rfl (lv_at hl 0 rfl) ?_
    refine lv_dup hx hb dX6_writeFurther_53 rfl ?_
    refine gt6_9 C hP in_X6_writeFurther_6 ln_X6_writeFurther_4 (v := ((u 0).1 9)) rfl dX6_writeFurther_54 ?_
    refine lv_iconst (v := 1) hx hb dX6_writeFurther_57 (by decide) ?_
    refine lv_iadd hx hb dX6_writeFurther_58 ?_
    refine pt6_9 C hP hD hS in_X6_writeFurther_6 ln_X6_writeFurther_4 dX6_writeFurther_59 (fun H locs hP hD hS => ?_)
    refine lv_aload_n hx hb dX6_writeFurther_62 rfl (lv_at hl 0 rfl) ?_
    refine gt6_3 C hP in_X6_writeFurther_6 ln_X6_writeFurther_1 dX6_writeFurther_63 ?_
    refine kv_v C (c_X4_dropFirst l D cI cZ (ad 9) (ad 10) (ad 11) (f_X4_tickFirst (u 4))  ) (cwV 0 C.2.2.2.2.1 gX6_writeFurther_X4_dropFirst rfl rfl rfl hdX4_dropFirst ⟨Nat.le_of_ble_eq_true rfl, Nat.le_of_ble_eq_true rfl⟩) (ci := 4) (q0 := 0) rfl rfl rfl hP hD hS (sp_6_4 cI cZ ad (cd_i (va_up (va_up u 4 (f_X4_tickFirst (u 4))) 1 (f_X3_put (u 1) (f_X4_tellOf (f_X4_tickFirst (u 4)) 0 0) (f_X4_tellOf (f_X4_tickFirst (u 4)) 0 1))) 9 (((u 0).1 9) + 1))) rfl hl.1 rfl (Nat.le_of_ble_eq_true rfl) dX6_writeFurther_66 ⟨Nat.zero_le _, Nat.zero_le _⟩ (fun H locs hP hD hS => ?_)
    exact rt_v C hr hlk hP hD hS ((if_pos c_2).trans rfl) dX6_writeFurther_69
  · exact rt_v C hr hlk hP hD hS ((if_neg c_2).trans rfl) dX6_writeFurther_26
theorem ln_X6_eraseFurther_1 : Cond.fieldLink RX6 38 "BlockCard" "eraser" "LBlockCard$Eraser;" ∈ wsX6_eraseFurther := List.mem_of_getElem? (i := 1) rfl
theorem in_X6_eraseFurther_6 : ∀ w ∈ wsX60, w ∈ wsX6_eraseFurther := fun w h => List.mem_cons_of_mem _ (List.mem_append_left _ (List.mem_append_left _ (List.mem_append_right _ h)))
theorem ln_X6_eraseFurther_2 : Cond.fieldLink RX6 10 "BlockCard" "memory" "LBlockCard$Memory;" ∈ wsX6_eraseFurther := List.mem_of_getElem? (i := 2) rfl
set_option maxHeartbeats 4000000 in
set_option maxRecDepth 100000 in
theorem c_X6_eraseFurther (l : Launch) (D : va_G) (cI cZ : ClassId) (ad : Nat → Nat) (u : cd_S) (hz : ((u 1).1 4).toInt ≤ 64) : Ct_v l yX6_eraseFurther wsX6_eraseFurther ({ frames := 3, cells := 0, slots := 0, locals := 70 } : Room) D (ct_T cI cZ) [.ref (ad 0)] (w_6 cI cZ ad u) (fun u => (w_6 cI cZ ad u)) (f_X6_eraseFurther u) := by
  refine en_v (cc := cX6_eraseFurther) (maxL := 2) (ret := none) (own := RX6) (by decide +kernel) rfl rfl (Nat.le_of_ble_eq_true rfl) ?_
  intro p e s m args below meth c A ls C hr hlk hP hD hS hl
  have hx := C.1
  have hb := C.2.1
  have hl : lv_has ls 2 [(0, .ref (ad 0))] := hl
  refine lv_aload_n hx hb dX6_eraseFurther_0 rfl (lv_at hl 0 rfl) ?_
  refine gt6_4 C hP in_X6_eraseFurther_6 ln_X6_eraseFurther_1 dX6_eraseFurther_1 ?_
  refine kv_p C (c_X0_group l D cI cZ (ad 12) (u 5)  ) (cwV 0 C.2.2.2.2.1 gX6_eraseFurther_X0_group rfl rfl rfl hdX0_group ⟨Nat.le_of_ble_eq_true rfl, Nat.le_of_ble_eq_true rfl⟩) (ci := 0) (q0 := 0) rfl rfl rfl hP hD hS (su_6_5 cI cZ ad u) rfl hl.1 rfl (Nat.le_of_ble_eq_true rfl) dX6_eraseFurther_4 ⟨Nat.zero_le _, Nat.zero_le _⟩ (fun H locs hP hS => ?_)
  refine lv_istore_n (lv' := [(1, .int _), (0, .ref _)]) hx hb dX6_eraseFurther_7 rfl hl (by decide) rfl (fun ls hl => ?_)
  refine lv_aload_n hx hb dX6_eraseFurther_8 rfl (lv_at hl 1 rfl) ?_
  refine gt6_4 C hP in_X6_eraseFurther_6 ln_X6_eraseFurther_1 dX6_eraseFurther_9 ?_
  refine kv_i C (c_X0_tickGroup l D cI cZ (ad 12) (u 5)  ) (cwV 0 C.2.2.2.2.1 gX6_eraseFurther_X0_tickGroup rfl rfl rfl hdX0_tickGroup ⟨Nat.le_of_ble_eq_true rfl, Nat.le_of_ble_eq_true rfl⟩) (ci := 0) (q0 := 0) rfl rfl rfl hP hD hS (sp_6_5 cI cZ ad u) rfl hl.1 rfl (Nat.le_of_ble_eq_true rfl) dX6_eraseFurther_12 ⟨Nat.zero_le _, Nat.zero_le _⟩ (fun H locs hP hD hS => ?_)
  refine lv_if_eq (tgt := 26) hx hb dX6_eraseFurther_15 (by decide) (fun c_2 => ?_) (fun c_2 => ?_)
  · exact rt_v C hr hlk hP hD hS ((if_pos c_2).trans rfl) dX6_eraseFurther_26
  · refine lv_aload_n hx hb dX6_eraseFurther_18 rfl (lv_at hl 1 rfl) ?_
    refine gt6_0 C hP in_X6_eraseFurther_6 ln_X6_eraseFurther_2 dX6_eraseFurther_19 ?_
    refine lv_iload_n hx hb dX6_eraseFurther_22 rfl (lv_at hl 0 rfl) ?_
    refine kv_v C (c_X3_eraseGroup l D cI cZ (ad 1) (ad 2) (ad 3) (ad 4) (u 1) (f_X0_group (u 5)) hz) (cwV 1 C.2.2.2.2.1 gX6_eraseFurther_X3_eraseGroup rfl rfl rfl hdX3_eraseGroup ⟨Nat.le_of_ble_eq_true rfl, Nat.le_of_ble_eq_true rfl⟩) (ci := 3) (q0 := 0) rfl rfl rfl hP hD hS (sp_6_1 cI cZ ad (va_up u 5 (f_X0_tickGroup (u 5)).2)) rfl hl.1 rfl (Nat.le_of_ble_eq_true rfl) dX6_eraseFurther_23 ⟨Nat.zero_le _, Nat.zero_le _⟩ (fun H locs hP hD hS => ?_)
    exact rt_v C hr hlk hP hD hS ((if_neg c_2).trans rfl) dX6_eraseFurther_26
set_option maxHeartbeats 4000000 in
set_option maxRecDepth 100000 in
theorem lp_X6_rowLength_2 {p : Program} {l : Launch} {e : Env} {s : State} {m : MethodId} {args : Array Value} {below : List Frame} {meth : Method} {c : Code} {D : va_G} {A : Nat → Prop} {cI cZ : ClassId} {x0 : Int32} {x1 : Int32} {F : Int32} (C : cx_C p c cX6_rowLength 3 s m args wsX6_rowLength RX6 D (ct_T cI cZ) A) (hr : meth.sig.returnType = some .int) (hlk : meth.locks = false) (hD : va_D (fun _ => True) [])  : ∀ (n : Nat) (x2 : Int32) (H : Heap) (locs : List Loc) (ls : Array Slot), 16 - x2.toInt < (n : Int) → x2.toInt ≤ 16 → F = k_X6_rowLength_2 x0 x1 n x2 → va_P D vwCl [] H → va_S A s.heap H locs → lv_has ls 3 [(0, .int x0), (1, .int x1), (2, .int x2)] → W p l e ({ frames := 0, cells := 0, slots := 0, locals := 0 } : Room) s m args below meth c H locs 0 0 (MQ below (ct_Qp D (ct_T cI cZ) F A) args s 0 0 A) (F0 m 2 ls []) := by
  have hx := C.1
  have hb := C.2.1
  intro n
  induction n with
  | zero =>
    intro x2 H locs ls i0 i1
    exact absurd i0 (by omega)
  | succ n ih =>
    intro x2 H locs ls i0 i1 hF hP hS hl
    refine lv_iload_n hx hb dX6_rowLength_2 rfl (lv_at hl 2 rfl) ?_
    refine lv_bipush (v := 16) hx hb dX6_rowLength_3 (by decide) ?_
    refine lv_icmp_ge (tgt := 28) hx hb dX6_rowLength_5 (by decide) (fun c_1 => ?_) (fun c_1 => ?_)
    · refine lv_iload_n hx hb dX6_rowLength_28 rfl (lv_at hl 2 rfl) ?_
      exact rt_p C hr hlk hS (hF.trans ((if_pos c_1).trans rfl)) dX6_rowLength_29
    · refine lv_iload_n hx hb dX6_rowLength_8 rfl (lv_at hl 0 rfl) ?_
      refine lv_iload_n hx hb dX6_rowLength_9 rfl (lv_at hl 1 rfl) ?_
      refine lv_iload_n hx hb dX6_rowLength_10 rfl (lv_at hl 2 rfl) ?_
      refine lv_iadd hx hb dX6_rowLength_11 ?_
      refine lv_bipush (v := 16) hx hb dX6_rowLength_12 (by decide) ?_
      refine lv_irem hx hb dX6_rowLength_14 (by decide) ?_
      refine lv_ishr hx hb dX6_rowLength_15 ?_
      refine lv_iconst (v := 1) hx hb dX6_rowLength_16 (by decide) ?_
      refine lv_iand hx hb dX6_rowLength_17 ?_
      refine lv_iconst (v := 1) hx hb dX6_rowLength_18 (by decide) ?_
      refine lv_icmp_ne (tgt := 28) hx hb dX6_rowLength_19 (by decide) (fun c_2 => ?_) (fun c_2 => ?_)
      · refine lv_iload_n hx hb dX6_rowLength_28 rfl (lv_at hl 2 rfl) ?_
        exact rt_p C hr hlk hS (hF.trans ((if_neg c_1).trans ((if_neg c_2).trans rfl))) dX6_rowLength_29
      · refine lv_iinc (v := (x2 + 1)) (lv' := [(2, .int _), (0, .int _), (1, .int _)]) hx hb dX6_rowLength_22 hl (k := 2) rfl rfl (by decide) rfl (fun ls hl => ?_)
        refine lv_goto (tgt := 2) hx hb dX6_rowLength_25 (by decide) ?_
        exact ih (x2 + 1)   _ _ _ (by have h := nle_k (n := 16) c_1 (by decide); have h2 := inc_b h (by decide); omega) (by have h := nle_k (n := 16) c_1 (by decide); have h2 := inc_b h (by decide); omega) (hF.trans ((if_neg c_1).trans ((if_pos c_2).trans rfl))) hP hS (lv_sub hl [1, 2, 0] rfl)
set_option maxHeartbeats 4000000 in
set_option maxRecDepth 100000 in
theorem c_X6_rowLength (l : Launch) (D : va_G) (cI cZ : ClassId)  (x0 : Int32) (x1 : Int32)  : Ct_p l yX6_rowLength wsX6_rowLength ({ frames := 0, cells := 0, slots := 0, locals := 0 } : Room) D (ct_T cI cZ) [.int x0, .int x1] [] (f_X6_rowLength x0 x1) := by
  refine en_p (cc := cX6_rowLength) (maxL := 3) (ret := (some .int)) (own := RX6) (by decide +kernel) rfl rfl (Nat.le_of_ble_eq_true rfl) ?_
  intro p e s m args below meth c A ls C hr hlk hP hD hS hl
  have hx := C.1
  have hb := C.2.1
  have hl : lv_has ls 3 [(0, .int x0), (1, .int x1)] := hl
  refine lv_iconst (v := 0) hx hb dX6_rowLength_0 (by decide) ?_
  refine lv_istore_n (lv' := [(2, .int _), (0, .int _), (1, .int _)]) hx hb dX6_rowLength_1 rfl hl (by decide) rfl (fun ls hl => ?_)
  exact lp_X6_rowLength_2 C hr hlk hD  17 0 _ _ _ (by decide) (by decide) rfl hP hS (lv_sub hl [1, 2, 0] rfl)
set_option maxHeartbeats 4000000 in
set_option maxRecDepth 100000 in
theorem lp_X6_middleOfLongestRow_6 {p : Program} {l : Launch} {e : Env} {s : State} {m : MethodId} {args : Array Value} {below : List Frame} {meth : Method} {c : Code} {D : va_G} {A : Nat → Prop} {cI cZ : ClassId} {x0 : Int32} {F : Int32} (C : cx_C p c cX6_middleOfLongestRow 5 s m args wsX6_middleOfLongestRow RX6 D (ct_T cI cZ) A) (hr : meth.sig.returnType = some .int) (hlk : meth.locks = false) (hD : va_D (fun _ => True) [])  : ∀ (n : Nat) (x1 : Int32) (x2 : Int32) (x3 : Int32) (H : Heap) (locs : List Loc) (ls : Array Slot), 16 - x3.toInt < (n : Int) → x3.toInt ≤ 16 → F = k_X6_middleOfLongestRow_6 x0 n x1 x2 x3 → va_P D vwCl [] H → va_S A s.heap H locs → lv_has ls 5 [(0, .int x0), (1, .int x1), (2, .int x2), (3, .int x3)] → W p l e ({ frames := 1, cells := 0, slots := 0, locals := 22 } : Room) s m args below meth c H locs 0 0 (MQ below (ct_Qp D (ct_T cI cZ) F A) args s 0 0 A) (F0 m 6 ls []) := by
  have hx := C.1
  have hb := C.2.1
  intro n
  induction n with
  | zero =>
    intro x1 x2 x3 H locs ls i0 i1
    exact absurd i0 (by omega)
  | succ n ih =>
    intro x1 x2 x3 H locs ls i0 i1 hF hP hS hl
    refine lv_iload_n hx hb dX6_middleOfLongestRow_6 rfl (lv_at hl 3 rfl) ?_
    refine lv_bipush (v := 16) hx hb dX6_middleOfLongestRow_7 (by decide) ?_
    refine lv_icmp_ge (tgt := 36) hx hb dX6_middleOfLongestRow_9 (by decide) (fun c_1 => ?_) (fun c_1 => ?_)
    · refine lv_iload_n hx hb dX6_middleOfLongestRow_36 rfl (lv_at hl 1 rfl) ?_
      refine lv_iload_n hx hb dX6_middleOfLongestRow_37 rfl (lv_at hl 2 rfl) ?_
      refine lv_iconst (v := 1) hx hb dX6_middleOfLongestRow_38 (by decide) ?_
      refine lv_isub hx hb dX6_middleOfLongestRow_39 ?_
      refine lv_iconst (v := 2) hx hb dX6_middleOfLongestRow_40 (by decide) ?_
      refine lv_idiv hx hb dX6_middleOfLongestRow_41 (by decide) ?_
      refine lv_iadd hx hb dX6_middleOfLongestRow_42 ?_
      refine lv_bipush (v := 16) hx hb dX6_middleOfLongestRow_43 (by decide) ?_
      refine lv_irem hx hb dX6_middleOfLongestRow_45 (by decide) ?_
      exact rt_p C hr hlk hS (hF.trans ((if_pos c_1).trans rfl)) dX6_middleOfLongestRow_46
    · refine lv_iload_n hx hb dX6_middleOfLongestRow_12 rfl (lv_at hl 0 rfl) ?_
      refine lv_iload_n hx hb dX6_middleOfLongestRow_13 rfl (lv_at hl 3 rfl) ?_
      refine ks_p C (c_X6_rowLength l D cI cZ x0 x3 ) (va_cwS 2 C.2.2.2.2.1 gX6_middleOfLongestRow_X6_rowLength rfl rfl rfl hdX6_rowLength ⟨Nat.le_of_ble_eq_true rfl, Nat.le_of_ble_eq_true rfl⟩) hP hD hS rfl hl.1 rfl (Nat.le_of_ble_eq_true rfl) dX6_middleOfLongestRow_14 ⟨Nat.zero_le _, Nat.zero_le _⟩ (fun H locs hP hS => ?_)
      refine lv_istore (lv' := [(4, .int _), (0, .int _), (1, .int _), (2, .int _), (3, .int _)]) hx hb dX6_middleOfLongestRow_17 hl (by decide) rfl (fun ls hl => ?_)
      refine lv_iload hx hb dX6_middleOfLongestRow_19 (lv_at hl 0 rfl) ?_
      refine lv_iload_n hx hb dX6_middleOfLongestRow_21 rfl (lv_at hl 3 rfl) ?_
      refine lv_icmp_le (tgt := 30) hx hb dX6_middleOfLongestRow_22 (by decide) (fun c_2 => ?_) (fun c_2 => ?_)
      · refine lv_iinc (v := (x3 + 1)) (lv' := [(3, .int _), (4, .int _), (0, .int _), (1, .int _), (2, .int _)]) hx hb dX6_middleOfLongestRow_30 hl (k := 4) rfl rfl (by decide) rfl (fun ls hl => ?_)
        refine lv_goto (tgt := 6) hx hb dX6_middleOfLongestRow_33 (by decide) ?_
        exact ih x1 x2 (x3 + 1)   _ _ _ (by have h := nle_k (n := 16) c_1 (by decide); have h2 := inc_b h (by decide); omega) (by have h := nle_k (n := 16) c_1 (by decide); have h2 := inc_b h (by decide); omega) (hF.trans ((if_neg c_1).trans ((if_pos c_2).trans rfl))) hP hS (lv_sub hl [2, 3, 4, 0] rfl)
      · refine lv_iload_n hx hb dX6_middleOfLongestRow_25 rfl (lv_at hl 4 rfl) ?_
        refine lv_istore_n (lv' := [(1, .int _), (4, .int _), (0, .int _), (2, .int _), (3, .int _)]) hx hb dX6_middleOfLongestRow_26 rfl hl (by decide) rfl (fun ls hl => ?_)
        refine lv_iload hx hb dX6_middleOfLongestRow_27 (lv_at hl 1 rfl) ?_
        refine lv_istore_n (lv' := [(2, .int _), (1, .int _), (4, .int _), (0, .int _), (3, .int _)]) hx hb dX6_middleOfLongestRow_29 rfl hl (by decide) rfl (fun ls hl => ?_)
        refine lv_iinc (v := (x3 + 1)) (lv' := [(3, .int _), (2, .int _), (1, .int _), (4, .int _), (0, .int _)]) hx hb dX6_middleOfLongestRow_30 hl (k := 4) rfl rfl (by decide) rfl (fun ls hl => ?_)
        refine lv_goto (tgt := 6) hx hb dX6_middleOfLongestRow_33 (by decide) ?_
        exact ih x3 (f_X6_rowLength x0 x3) (x3 + 1)   _ _ _ (by have h := nle_k (n := 16) c_1 (by decide); have h2 := inc_b h (by decide); omega) (by have h := nle_k (n := 16) c_1 (by decide); have h2 := inc_b h (by decide); omega) (hF.trans ((if_neg c_1).trans ((if_neg c_2).trans rfl))) hP hS (lv_sub hl [4, 2, 1, 0] rfl)
set_option maxHeartbeats 4000000 in
set_option maxRecDepth 100000 in
theorem c_X6_middleOfLongestRow (l : Launch) (D : va_G) (cI cZ : ClassId)  (x0 : Int32)  : Ct_p l yX6_middleOfLongestRow wsX6_middleOfLongestRow ({ frames := 1, cells := 0, slots := 0, locals := 22 } : Room) D (ct_T cI cZ) [.int x0] [] (f_X6_middleOfLongestRow x0) := by
  refine en_p (cc := cX6_middleOfLongestRow) (maxL := 5) (ret := (some .int)) (own := RX6) (by decide +kernel) rfl rfl (Nat.le_of_ble_eq_true rfl) ?_
  intro p e s m args below meth c A ls C hr hlk hP hD hS hl
  have hx := C.1
  have hb := C.2.1
  have hl : lv_has ls 5 [(0, .int x0)] := hl
  refine lv_iconst (v := 0) hx hb dX6_middleOfLongestRow_0 (by decide) ?_
  refine lv_istore_n (lv' := [(1, .int _), (0, .int _)]) hx hb dX6_middleOfLongestRow_1 rfl hl (by decide) rfl (fun ls hl => ?_)
  refine lv_iconst (v := 0) hx hb dX6_middleOfLongestRow_2 (by decide) ?_
  refine lv_istore_n (lv' := [(2, .int _), (1, .int _), (0, .int _)]) hx hb dX6_middleOfLongestRow_3 rfl hl (by decide) rfl (fun ls hl => ?_)
  refine lv_iconst (v := 0) hx hb dX6_middleOfLongestRow_4 (by decide) ?_
  refine lv_istore_n (lv' := [(3, .int _), (2, .int _), (1, .int _), (0, .int _)]) hx hb dX6_middleOfLongestRow_5 rfl hl (by decide) rfl (fun ls hl => ?_)
  exact lp_X6_middleOfLongestRow_6 C hr hlk hD  17 0 0 0 _ _ _ (by decide) (by decide) rfl hP hS (lv_sub hl [3, 2, 1, 0] rfl)
theorem ln_X6_isStreaming_1 : Cond.fieldLink RX6 111 "BlockCard" "state" "I" ∈ wsX6_isStreaming := List.mem_of_getElem? (i := 1) rfl
theorem in_X6_isStreaming_6 : ∀ w ∈ wsX60, w ∈ wsX6_isStreaming := fun w h => List.mem_cons_of_mem _ (List.mem_append_right _ h)
set_option maxHeartbeats 4000000 in
set_option maxRecDepth 100000 in
theorem c_X6_isStreaming (l : Launch) (D : va_G) (cI cZ : ClassId) (ad : Nat → Nat) (u : cd_S)  : Ct_p l yX6_isStreaming wsX6_isStreaming ({ frames := 0, cells := 0, slots := 0, locals := 0 } : Room) D (ct_T cI cZ) [.ref (ad 0)] (w_6 cI cZ ad u) (f_X6_isStreaming u) := by
  refine en_p (cc := cX6_isStreaming) (maxL := 1) (ret := (some .boolean)) (own := RX6) (by decide +kernel) rfl rfl (Nat.le_of_ble_eq_true rfl) ?_
  intro p e s m args below meth c A ls C hr hlk hP hD hS hl
  have hx := C.1
  have hb := C.2.1
  have hl : lv_has ls 1 [(0, .ref (ad 0))] := hl
  refine lv_aload_n hx hb dX6_isStreaming_0 rfl (lv_at hl 0 rfl) ?_
  refine gt6_12 C hP in_X6_isStreaming_6 ln_X6_isStreaming_1 (v := ((u 0).1 12)) rfl dX6_isStreaming_1 ?_
  refine lv_iconst (v := 5) hx hb dX6_isStreaming_4 (by decide) ?_
  refine lv_icmp_eq (tgt := 17) hx hb dX6_isStreaming_5 (by decide) (fun c_1 => ?_) (fun c_1 => ?_)
  · refine lv_iconst (v := 1) hx hb dX6_isStreaming_17 (by decide) ?_
    refine lv_goto (tgt := 22) hx hb dX6_isStreaming_18 (by decide) ?_
    exact rt_q C hr hlk (Or.inr rfl) hS ((if_pos c_1).trans rfl) dX6_isStreaming_22
  · refine lv_aload_n hx hb dX6_isStreaming_8 rfl (lv_at hl 0 rfl) ?_
    refine gt6_12 C hP in_X6_isStreaming_6 ln_X6_isStreaming_1 (v := ((u 0).1 12)) rfl dX6_isStreaming_9 ?_
    refine lv_bipush (v := 6) hx hb dX6_isStreaming_12 (by decide) ?_
    refine lv_icmp_ne (tgt := 21) hx hb dX6_isStreaming_14 (by decide) (fun c_2 => ?_) (fun c_2 => ?_)
    · refine lv_iconst (v := 0) hx hb dX6_isStreaming_21 (by decide) ?_
      exact rt_q C hr hlk (Or.inl rfl) hS ((if_neg c_1).trans ((if_neg c_2).trans rfl)) dX6_isStreaming_22
    · refine lv_iconst (v := 1) hx hb dX6_isStreaming_17 (by decide) ?_
      refine lv_goto (tgt := 22) hx hb dX6_isStreaming_18 (by decide) ?_
      exact rt_q C hr hlk (Or.inr rfl) hS ((if_neg c_1).trans ((if_pos c_2).trans rfl)) dX6_isStreaming_22
