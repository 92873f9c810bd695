theorem ln_X6_hears_1 : Cond.fieldLink RX6 38 "BlockCard" "eraser" "LBlockCard$Eraser;" ∈ wsX6_hears := List.mem_of_getElem? (i := 1) rfl
theorem in_X6_hears_6 : ∀ w ∈ wsX60, w ∈ wsX6_hears := fun w h => List.mem_cons_of_mem _ (List.mem_append_left _ (List.mem_append_right _ h))
set_option maxHeartbeats 4000000 in
set_option maxRecDepth 100000 in
theorem c_X6_hears (l : Launch) (D : va_G) (cI cZ : ClassId) (ad : Nat → Nat) (u : cd_S) (x1 : Int32) (x2 : Int32) (x3 : Int32)  : Ct_i l yX6_hears wsX6_hears ({ frames := 3, cells := 0, slots := 0, locals := 61 } : Room) D (ct_T cI cZ) [.ref (ad 0), .int x1, .int x2, .int x3] (w_6 cI cZ ad u) (fun u => (w_6 cI cZ ad u)) (f_X6_hears u x1 x2 x3) := by
  refine en_i (cc := cX6_hears) (maxL := 4) (ret := (some .boolean)) (own := RX6) (by decide +kernel) rfl rfl (Nat.le_of_ble_eq_true rfl) ?_
  intro p e s m args below meth c A ls C hr hlk hP hD hS hl
  have hx := C.1
  have hb := C.2.1
  have hl : lv_has ls 4 [(0, .ref (ad 0)), (1, .int x1), (2, .int x2), (3, .int x3)] := hl
  refine lv_aload_n hx hb dX6_hears_0 rfl (lv_at hl 0 rfl) ?_
  refine kv_p C (c_X6_isPowered l D cI cZ ad u  ) (cwV 0 C.2.2.2.2.1 gX6_hears_X6_isPowered rfl rfl rfl hdX6_isPowered ⟨Nat.le_of_ble_eq_true rfl, Nat.le_of_ble_eq_true rfl⟩) (ci := 6) (q0 := 0) rfl rfl rfl hP hD hS (su_self _) rfl hl.1 rfl (Nat.le_of_ble_eq_true rfl) dX6_hears_1 ⟨Nat.zero_le _, Nat.zero_le _⟩ (fun H locs hP hS => ?_)
  refine lv_if_ne (tgt := 9) hx hb dX6_hears_4 (by decide) (fun c_1 => ?_) (fun c_1 => ?_)
  · refine lv_iload_n hx hb dX6_hears_9 rfl (lv_at hl 3 rfl) ?_
    refine lv_iload_n hx hb dX6_hears_10 rfl (lv_at hl 1 rfl) ?_
    refine lv_iload_n hx hb dX6_hears_11 rfl (lv_at hl 2 rfl) ?_
    refine ks_p C (c_X6_commandCheck l D cI cZ x1 x2 ) (va_cwS 2 C.2.2.2.2.1 gX6_hears_X6_commandCheck rfl rfl rfl hdX6_commandCheck ⟨Nat.le_of_ble_eq_true rfl, Nat.le_of_ble_eq_true rfl⟩) hP hD hS rfl hl.1 rfl (Nat.le_of_ble_eq_true rfl) dX6_hears_12 ⟨Nat.zero_le _, Nat.zero_le _⟩ (fun H locs hP hS => ?_)
    refine lv_icmp_eq (tgt := 25) hx hb dX6_hears_15 (by decide) (fun c_2 => ?_) (fun c_2 => ?_)
    · refine lv_aload_n hx hb dX6_hears_25 rfl (lv_at hl 0 rfl) ?_
      refine lv_iload_n hx hb dX6_hears_26 rfl (lv_at hl 1 rfl) ?_
      refine kv_p C (c_X6_isOpenTo l D cI cZ ad u x1 ) (cwV 1 C.2.2.2.2.1 gX6_hears_X6_isOpenTo rfl rfl rfl hdX6_isOpenTo ⟨Nat.le_of_ble_eq_true rfl, Nat.le_of_ble_eq_true rfl⟩) (ci := 6) (q0 := 0) rfl rfl rfl hP hD hS (su_self _) rfl hl.1 rfl (Nat.le_of_ble_eq_true rfl) dX6_hears_27 ⟨Nat.zero_le _, Nat.zero_le _⟩ (fun H locs hP hS => ?_)
      refine lv_if_ne (tgt := 40) hx hb dX6_hears_30 (by decide) (fun c_3 => ?_) (fun c_3 => ?_)
      · refine lv_aload_n hx hb dX6_hears_40 rfl (lv_at hl 0 rfl) ?_
        refine gt6_4 C hP in_X6_hears_6 ln_X6_hears_1 dX6_hears_41 ?_
        refine lv_iload_n hx hb dX6_hears_44 rfl (lv_at hl 1 rfl) ?_
        refine kv_p C (c_X0_isBrokenOffBy l D cI cZ (ad 12) (u 5) x1 ) (cwV 1 C.2.2.2.2.1 gX6_hears_X0_isBrokenOffBy rfl rfl rfl hdX0_isBrokenOffBy ⟨Nat.le_of_ble_eq_true rfl, Nat.le_of_ble_eq_true rfl⟩) (ci := 0) (q0 := 0) rfl rfl rfl hP hD hS (su_6_5 cI cZ ad u) rfl hl.1 rfl (Nat.le_of_ble_eq_true rfl) dX6_hears_45 ⟨Nat.zero_le _, Nat.zero_le _⟩ (fun H locs hP hS => ?_)
        refine lv_if_eq (tgt := 64) hx hb dX6_hears_48 (by decide) (fun c_4 => ?_) (fun c_4 => ?_)
        · refine lv_iconst (v := 1) hx hb dX6_hears_64 (by decide) ?_
          exact rt_z C hr hlk (Or.inr rfl) hP hD hS ((if_neg c_1).trans ((if_pos c_2).trans ((if_neg c_3).trans ((if_pos c_4).trans rfl)))) dX6_hears_65
        · refine lv_aload_n hx hb dX6_hears_51 rfl (lv_at hl 0 rfl) ?_
          refine gt6_4 C hP in_X6_hears_6 ln_X6_hears_1 dX6_hears_52 ?_
          refine kv_v C (c_X0_forget l D cI cZ (ad 12) (u 5)  ) (cwV 0 C.2.2.2.2.1 gX6_hears_X0_forget rfl rfl rfl hdX0_forget ⟨Nat.le_of_ble_eq_true rfl, Nat.le_of_ble_eq_true rfl⟩) (ci := 0) (q0 := 0) rfl rfl rfl hP hD hS (sp_6_5 cI cZ ad u) rfl hl.1 rfl (Nat.le_of_ble_eq_true rfl) dX6_hears_55 ⟨Nat.zero_le _, Nat.zero_le _⟩ (fun H locs hP hD hS => ?_)
          refine lv_aload_n hx hb dX6_hears_58 rfl (lv_at hl 0 rfl) ?_
          refine lv_bipush (v := 8) hx hb dX6_hears_59 (by decide) ?_
          refine kv_v C (c_X6_note l D cI cZ ad (va_up u 5 (f_X0_forget (u 5))) 8 ) (cwV 1 C.2.2.2.2.1 gX6_hears_X6_note rfl rfl rfl hdX6_note ⟨Nat.le_of_ble_eq_true rfl, Nat.le_of_ble_eq_true rfl⟩) (ci := 6) (q0 := 0) rfl rfl rfl hP hD hS (sp_self (fun u => (w_6 cI cZ ad u)) 15 (fun _ => rfl)) rfl hl.1 rfl (Nat.le_of_ble_eq_true rfl) dX6_hears_61 ⟨Nat.zero_le _, Nat.zero_le _⟩ (fun H locs hP hD hS => ?_)
          refine lv_iconst (v := 1) hx hb dX6_hears_64 (by decide) ?_
          exact rt_z C hr hlk (Or.inr rfl) hP hD hS ((if_neg c_1).trans ((if_pos c_2).trans ((if_neg c_3).trans ((if_neg c_4).trans rfl)))) dX6_hears_65
      · refine lv_aload_n hx hb dX6_hears_33 rfl (lv_at hl 0 rfl) ?_
        refine lv_iconst (v := 2) hx hb dX6_hears_34 (by decide) ?_
        refine kv_v C (c_X6_note l D cI cZ ad u 2 ) (cwV 1 C.2.2.2.2.1 gX6_hears_X6_note rfl rfl rfl hdX6_note ⟨Nat.le_of_ble_eq_true rfl, Nat.le_of_ble_eq_true rfl⟩) (ci := 6) (q0 := 0) rfl rfl rfl hP hD hS (sp_self (fun u => (w_6 cI cZ ad u)) 15 (fun _ => rfl)) rfl hl.1 rfl (Nat.le_of_ble_eq_true rfl) dX6_hears_35 ⟨Nat.zero_le _, Nat.zero_le _⟩ (fun H locs hP hD hS => ?_)
        refine lv_iconst (v := 0) hx hb dX6_hears_38 (by decide) ?_
        exact rt_z C hr hlk (Or.inl rfl) hP hD hS ((if_neg c_1).trans ((if_pos c_2).trans ((if_pos c_3).trans rfl))) dX6_hears_39
    · refine lv_aload_n hx hb dX6_hears_18 rfl (lv_at hl 0 rfl) ?_
      refine lv_iconst (v := 1) hx hb dX6_hears_19 (by decide) ?_
      refine kv_v C (c_X6_note l D cI cZ ad u 1 ) (cwV 1 C.2.2.2.2.1 gX6_hears_X6_note rfl rfl rfl hdX6_note ⟨Nat.le_of_ble_eq_true rfl, Nat.le_of_ble_eq_true rfl⟩) (ci := 6) (q0 := 0) rfl rfl rfl hP hD hS (sp_self (fun u => (w_6 cI cZ ad u)) 15 (fun _ => rfl)) rfl hl.1 rfl (Nat.le_of_ble_eq_true rfl) dX6_hears_20 ⟨Nat.zero_le _, Nat.zero_le _⟩ (fun H locs hP hD hS => ?_)
      refine lv_iconst (v := 0) hx hb dX6_hears_23 (by decide) ?_
      exact rt_z C hr hlk (Or.inl rfl) hP hD hS ((if_neg c_1).trans ((if_neg c_2).trans rfl)) dX6_hears_24
  · refine lv_iconst (v := 0) hx hb dX6_hears_7 (by decide) ?_
    exact rt_z C hr hlk (Or.inl rfl) hP hD hS ((if_pos c_1).trans rfl) dX6_hears_8
theorem ln_X6_setSecret_1 : Cond.fieldLink RX6 21 "BlockCard" "text" "LBlockCard$Letters;" ∈ wsX6_setSecret := List.mem_of_getElem? (i := 1) rfl
theorem in_X6_setSecret_6 : ∀ w ∈ wsX60, w ∈ wsX6_setSecret := fun w h => List.mem_cons_of_mem _ (List.mem_append_left _ (List.mem_append_right _ h))
theorem ln_X6_setSecret_2 : Cond.fieldLink RX6 25 "BlockCard" "secret" "LBlockCard$Letters;" ∈ wsX6_setSecret := List.mem_of_getElem? (i := 2) rfl
theorem ln_X6_setSecret_3 : Cond.fieldLink RX6 197 "BlockCard" "locked" "Z" ∈ wsX6_setSecret := List.mem_of_getElem? (i := 3) rfl
set_option maxHeartbeats 4000000 in
set_option maxRecDepth 100000 in
theorem c_X6_setSecret (l : Launch) (D : va_G) (cI cZ : ClassId) (ad : Nat → Nat) (u : cd_S) (x1 : Int32) (hA : pc_A u) (hx1 : x1 = 0 ∨ x1 = 1) : Ct_i l yX6_setSecret wsX6_setSecret ({ frames := 2, cells := 0, slots := 0, locals := 44 } : Room) D (ct_T cI cZ) [.ref (ad 0), .int x1] (w_6 cI cZ ad u) (fun u => (w_6 cI cZ ad u)) (f_X6_setSecret u x1) := by
  refine en_i (cc := cX6_setSecret) (maxL := 3) (ret := (some .int)) (own := RX6) (by decide +kernel) rfl rfl (Nat.le_of_ble_eq_true rfl) ?_
  intro p e s m args below meth c A ls C hr hlk hP hD hS hl
  have hx := C.1
  have hb := C.2.1
  have hl : lv_has ls 3 [(0, .ref (ad 0)), (1, .int x1)] := hl
  refine lv_aload_n hx hb dX6_setSecret_0 rfl (lv_at hl 0 rfl) ?_
  refine gt6_1 C hP in_X6_setSecret_6 ln_X6_setSecret_1 dX6_setSecret_1 ?_
  refine kv_p C (c_X1_length l D cI cZ 200 (ad 5) (ad 6) (u 2)  ) (cwV 0 C.2.2.2.2.1 gX6_setSecret_X1_length rfl rfl rfl hdX1_length ⟨Nat.le_of_ble_eq_true rfl, Nat.le_of_ble_eq_true rfl⟩) (ci := 1) (q0 := 0) rfl rfl rfl hP hD hS (su_6_2 cI cZ ad u) rfl hl.1 rfl (Nat.le_of_ble_eq_true rfl) dX6_setSecret_4 ⟨Nat.zero_le _, Nat.zero_le _⟩ (fun H locs hP hS => ?_)
  refine lv_aload_n hx hb dX6_setSecret_7 rfl (lv_at hl 0 rfl) ?_
  refine gt6_2 C hP in_X6_setSecret_6 ln_X6_setSecret_2 dX6_setSecret_8 ?_
  refine kv_p C (c_X1_length l D cI cZ 8 (ad 7) (ad 8) (u 3)  ) (cwV 0 C.2.2.2.2.1 gX6_setSecret_X1_length rfl rfl rfl hdX1_length ⟨Nat.le_of_ble_eq_true rfl, Nat.le_of_ble_eq_true rfl⟩) (ci := 1) (q0 := 0) rfl rfl rfl hP hD hS (su_6_3 cI cZ ad u) rfl hl.1 rfl (Nat.le_of_ble_eq_true rfl) dX6_setSecret_11 ⟨Nat.zero_le _, Nat.zero_le _⟩ (fun H locs hP hS => ?_)
  refine lv_isub hx hb dX6_setSecret_14 ?_
  refine lv_istore_n (lv' := [(2, .int _), (0, .ref _), (1, .int _)]) hx hb dX6_setSecret_15 rfl hl (by decide) rfl (fun ls hl => ?_)
  refine lv_aload_n hx hb dX6_setSecret_16 rfl (lv_at hl 1 rfl) ?_
  refine gt6_16 C hP in_X6_setSecret_6 ln_X6_setSecret_3 (v := ((u 0).1 16)) rfl dX6_setSecret_17 ?_
  refine lv_if_ne (tgt := 47) hx hb dX6_setSecret_20 (by decide) (fun c_1 => ?_) (fun c_1 => ?_)
  · refine lv_aload_n hx hb dX6_setSecret_47 rfl (lv_at hl 1 rfl) ?_
    refine lv_bipush (v := 16) hx hb dX6_setSecret_48 (by decide) ?_
    refine kv_i C (c_X6_refuse l D cI cZ ad u 16 ) (cwV 1 C.2.2.2.2.1 gX6_setSecret_X6_refuse rfl rfl rfl hdX6_refuse ⟨Nat.le_of_ble_eq_true rfl, Nat.le_of_ble_eq_true rfl⟩) (ci := 6) (q0 := 0) rfl rfl rfl hP hD hS (sp_self (fun u => (w_6 cI cZ ad u)) 15 (fun _ => rfl)) rfl hl.1 rfl (Nat.le_of_ble_eq_true rfl) dX6_setSecret_50 ⟨Nat.zero_le _, Nat.zero_le _⟩ (fun H locs hP hD hS => ?_)
    exact rt_i C hr hlk hP hD hS ((if_neg c_1).trans rfl) dX6_setSecret_53
  · refine lv_iload_n hx hb dX6_setSecret_23 rfl (lv_at hl 0 rfl) ?_
    refine lv_iconst (v := 1) hx hb dX6_setSecret_24 (by decide) ?_
    refine lv_bipush (v := 8) hx hb dX6_setSecret_25 (by decide) ?_
    refine ks_p C (c_X6_isOutside l D cI cZ ((f_X1_length 200 (u 2)) - (f_X1_length 8 (u 3))) 1 8 ) (va_cwS 3 C.2.2.2.2.1 gX6_setSecret_X6_isOutside rfl rfl rfl hdX6_isOutside ⟨Nat.le_of_ble_eq_true rfl, Nat.le_of_ble_eq_true rfl⟩) hP hD hS rfl hl.1 rfl (Nat.le_of_ble_eq_true rfl) dX6_setSecret_27 ⟨Nat.zero_le _, Nat.zero_le _⟩ (fun H locs hP hS => ?_)
    refine lv_if_ne (tgt := 47) hx hb dX6_setSecret_30 (by decide) (fun c_3 => ?_) (fun c_3 => ?_)
    · refine lv_aload_n hx hb dX6_setSecret_47 rfl (lv_at hl 1 rfl) ?_
      refine lv_bipush (v := 16) hx hb dX6_setSecret_48 (by decide) ?_
      refine kv_i C (c_X6_refuse l D cI cZ ad u 16 ) (cwV 1 C.2.2.2.2.1 gX6_setSecret_X6_refuse rfl rfl rfl hdX6_refuse ⟨Nat.le_of_ble_eq_true rfl, Nat.le_of_ble_eq_true rfl⟩) (ci := 6) (q0 := 0) rfl rfl rfl hP hD hS (sp_self (fun u => (w_6 cI cZ ad u)) 15 (fun _ => rfl)) rfl hl.1 rfl (Nat.le_of_ble_eq_true rfl) dX6_setSecret_50 ⟨Nat.zero_le _, Nat.zero_le _⟩ (fun H locs hP hD hS => ?_)
      exact rt_i C hr hlk hP hD hS ((if_pos c_1).trans ((if_neg c_3).trans rfl)) dX6_setSecret_53
    · refine lv_aload_n hx hb dX6_setSecret_33 rfl (lv_at hl 1 rfl) ?_
      refine gt6_1 C hP in_X6_setSecret_6 ln_X6_setSecret_1 dX6_setSecret_34 ?_
      refine lv_aload_n hx hb dX6_setSecret_37 rfl (lv_at hl 1 rfl) ?_
      refine gt6_2 C hP in_X6_setSecret_6 ln_X6_setSecret_2 dX6_setSecret_38 ?_
      refine kv_p C (c_X1_startsWith l D cI cZ 200 (ad 5) (ad 6) 8 (ad 7) (ad 8) (u 2) (u 3)  (by decide) (by decide) hA.2.1.2) (cwV 1 C.2.2.2.2.1 gX6_setSecret_X1_startsWith rfl rfl rfl hdX1_startsWith ⟨Nat.le_of_ble_eq_true rfl, Nat.le_of_ble_eq_true rfl⟩) (ci := 1) (q0 := 0) rfl rfl rfl hP hD hS (su_6_23 cI cZ ad u) rfl hl.1 rfl (Nat.le_of_ble_eq_true rfl) dX6_setSecret_41 ⟨Nat.zero_le _, Nat.zero_le _⟩ (fun H locs hP hS => ?_)
      refine lv_if_ne (tgt := 54) hx hb dX6_setSecret_44 (by decide) (fun c_5 => ?_) (fun c_5 => ?_)
      · refine lv_aload_n hx hb dX6_setSecret_54 rfl (lv_at hl 1 rfl) ?_
        refine gt6_2 C hP in_X6_setSecret_6 ln_X6_setSecret_2 dX6_setSecret_55 ?_
        refine lv_aload_n hx hb dX6_setSecret_58 rfl (lv_at hl 1 rfl) ?_
        refine gt6_1 C hP in_X6_setSecret_6 ln_X6_setSecret_1 dX6_setSecret_59 ?_
        refine lv_aload_n hx hb dX6_setSecret_62 rfl (lv_at hl 1 rfl) ?_
        refine gt6_2 C hP in_X6_setSecret_6 ln_X6_setSecret_2 dX6_setSecret_63 ?_
        refine kv_p C (c_X1_length l D cI cZ 8 (ad 7) (ad 8) (u 3)  ) (cwV 0 C.2.2.2.2.1 gX6_setSecret_X1_length rfl rfl rfl hdX1_length ⟨Nat.le_of_ble_eq_true rfl, Nat.le_of_ble_eq_true rfl⟩) (ci := 1) (q0 := 0) rfl rfl rfl hP hD hS (su_6_3 cI cZ ad u) rfl hl.1 rfl (Nat.le_of_ble_eq_true rfl) dX6_setSecret_66 ⟨Nat.zero_le _, Nat.zero_le _⟩ (fun H locs hP hS => ?_)
        refine kv_v C (c_X1_becomeTail l D cI cZ 8 (ad 7) (ad 8) 200 (ad 5) (ad 6) (u 3) (u 2) (f_X1_length 8 (u 3)) (by decide) (by decide) hA.2.2 hA.2.1.1) (cwV 2 C.2.2.2.2.1 gX6_setSecret_X1_becomeTail rfl rfl rfl hdX1_becomeTail ⟨Nat.le_of_ble_eq_true rfl, Nat.le_of_ble_eq_true rfl⟩) (ci := 1) (q0 := 0) rfl rfl rfl hP hD hS (sp_6_32 cI cZ ad u) rfl hl.1 rfl (Nat.le_of_ble_eq_true rfl) dX6_setSecret_69 ⟨Nat.zero_le _, Nat.zero_le _⟩ (fun H locs hP hD hS => ?_)
        refine lv_aload_n hx hb dX6_setSecret_72 rfl (lv_at hl 1 rfl) ?_
        refine lv_iload_n hx hb dX6_setSecret_73 rfl (lv_at hl 2 rfl) ?_
        refine pt6_16 C hP hD hS in_X6_setSecret_6 ln_X6_setSecret_3 hx1 dX6_setSecret_74 (fun H locs hP hD hS => ?_)
        refine lv_iconst (v := 1) hx hb dX6_setSecret_77 (by decide) ?_
        exact rt_i C hr hlk hP hD hS ((if_pos c_1).trans ((if_pos c_3).trans ((if_neg c_5).trans rfl))) dX6_setSecret_78
      · refine lv_aload_n hx hb dX6_setSecret_47 rfl (lv_at hl 1 rfl) ?_
        refine lv_bipush (v := 16) hx hb dX6_setSecret_48 (by decide) ?_
        refine kv_i C (c_X6_refuse l D cI cZ ad u 16 ) (cwV 1 C.2.2.2.2.1 gX6_setSecret_X6_refuse rfl rfl rfl hdX6_refuse ⟨Nat.le_of_ble_eq_true rfl, Nat.le_of_ble_eq_true rfl⟩) (ci := 6) (q0 := 0) rfl rfl rfl hP hD hS (sp_self (fun u => (w_6 cI cZ ad u)) 15 (fun _ => rfl)) rfl hl.1 rfl (Nat.le_of_ble_eq_true rfl) dX6_setSecret_50 ⟨Nat.zero_le _, Nat.zero_le _⟩ (fun H locs hP hD hS => ?_)
        exact rt_i C hr hlk hP hD hS ((if_pos c_1).trans ((if_pos c_3).trans ((if_pos c_5).trans rfl))) dX6_setSecret_53
set_option maxHeartbeats 4000000 in
set_option maxRecDepth 100000 in
theorem c_X6_changeLock (l : Launch) (D : va_G) (cI cZ : ClassId) (ad : Nat → Nat) (u : cd_S) (x1 : Int32) (hA : pc_A u) : Ct_i l yX6_changeLock wsX6_changeLock ({ frames := 4, cells := 0, slots := 0, locals := 84 } : Room) D (ct_T cI cZ) [.ref (ad 0), .int x1] (w_6 cI cZ ad u) (fun u => (w_6 cI cZ ad u)) (f_X6_changeLock u x1) := by
  refine en_i (cc := cX6_changeLock) (maxL := 2) (ret := (some .int)) (own := RX6) (by decide +kernel) rfl rfl (Nat.le_of_ble_eq_true rfl) ?_
  intro p e s m args below meth c A ls C hr hlk hP hD hS hl
  have hx := C.1
  have hb := C.2.1
  have hl : lv_has ls 2 [(0, .ref (ad 0)), (1, .int x1)] := hl
  refine lv_iload_n hx hb dX6_changeLock_0 rfl (lv_at hl 1 rfl) ?_
  by_cases s_1 : x1 = 0
  · refine lv_tableIn (tgt := 52) hx hb dX6_changeLock_1 (by rw [s_1]; decide) (by rw [s_1]; decide) (by rw [s_1]; rfl) (by decide) ?_
    refine lv_aload_n hx hb dX6_changeLock_52 rfl (lv_at hl 0 rfl) ?_
    refine kv_i C (c_X6_unlock l D cI cZ ad u  hA) (cwV 0 C.2.2.2.2.1 gX6_changeLock_X6_unlock rfl rfl rfl hdX6_unlock ⟨Nat.le_of_ble_eq_true rfl, Nat.le_of_ble_eq_true rfl⟩) (ci := 6) (q0 := 0) rfl rfl rfl hP hD hS (sp_self (fun u => (w_6 cI cZ ad u)) 15 (fun _ => rfl)) rfl hl.1 rfl (Nat.le_of_ble_eq_true rfl) dX6_changeLock_53 ⟨Nat.zero_le _, Nat.zero_le _⟩ (fun H locs hP hD hS => ?_)
    exact rt_i C hr hlk hP hD hS ((if_pos s_1).trans rfl) dX6_changeLock_56
  by_cases s_3 : x1 = 1
  · refine lv_tableIn (tgt := 57) hx hb dX6_changeLock_1 (by rw [s_3]; decide) (by rw [s_3]; decide) (by rw [s_3]; rfl) (by decide) ?_
    refine lv_aload_n hx hb dX6_changeLock_57 rfl (lv_at hl 0 rfl) ?_
    refine lv_iconst (v := 0) hx hb dX6_changeLock_58 (by decide) ?_
    refine kv_i C (c_X6_setSecret l D cI cZ ad u 0 hA (by decide)) (cwV 1 C.2.2.2.2.1 gX6_changeLock_X6_setSecret rfl rfl rfl hdX6_setSecret ⟨Nat.le_of_ble_eq_true rfl, Nat.le_of_ble_eq_true rfl⟩) (ci := 6) (q0 := 0) rfl rfl rfl hP hD hS (sp_self (fun u => (w_6 cI cZ ad u)) 15 (fun _ => rfl)) rfl hl.1 rfl (Nat.le_of_ble_eq_true rfl) dX6_changeLock_59 ⟨Nat.zero_le _, Nat.zero_le _⟩ (fun H locs hP hD hS => ?_)
    exact rt_i C hr hlk hP hD hS ((if_neg s_1).trans ((if_pos s_3).trans rfl)) dX6_changeLock_62
  by_cases s_5 : x1 = 2
  · refine lv_tableIn (tgt := 63) hx hb dX6_changeLock_1 (by rw [s_5]; decide) (by rw [s_5]; decide) (by rw [s_5]; rfl) (by decide) ?_
    refine lv_aload_n hx hb dX6_changeLock_63 rfl (lv_at hl 0 rfl) ?_
    refine kv_i C (c_X6_clearSecret l D cI cZ ad u  hA) (cwV 0 C.2.2.2.2.1 gX6_changeLock_X6_clearSecret rfl rfl rfl hdX6_clearSecret ⟨Nat.le_of_ble_eq_true rfl, Nat.le_of_ble_eq_true rfl⟩) (ci := 6) (q0 := 0) rfl rfl rfl hP hD hS (sp_self (fun u => (w_6 cI cZ ad u)) 15 (fun _ => rfl)) rfl hl.1 rfl (Nat.le_of_ble_eq_true rfl) dX6_changeLock_64 ⟨Nat.zero_le _, Nat.zero_le _⟩ (fun H locs hP hD hS => ?_)
    exact rt_i C hr hlk hP hD hS ((if_neg s_1).trans ((if_neg s_3).trans ((if_pos s_5).trans rfl))) dX6_changeLock_67
  by_cases s_7 : x1 = 4
  · refine lv_tableIn (tgt := 68) hx hb dX6_changeLock_1 (by rw [s_7]; decide) (by rw [s_7]; decide) (by rw [s_7]; rfl) (by decide) ?_
    refine lv_aload_n hx hb dX6_changeLock_68 rfl (lv_at hl 0 rfl) ?_
    refine kv_i C (c_X6_lock l D cI cZ ad u  hA) (cwV 0 C.2.2.2.2.1 gX6_changeLock_X6_lock rfl rfl rfl hdX6_lock ⟨Nat.le_of_ble_eq_true rfl, Nat.le_of_ble_eq_true rfl⟩) (ci := 6) (q0 := 0) rfl rfl rfl hP hD hS (sp_self (fun u => (w_6 cI cZ ad u)) 15 (fun _ => rfl)) rfl hl.1 rfl (Nat.le_of_ble_eq_true rfl) dX6_changeLock_69 ⟨Nat.zero_le _, Nat.zero_le _⟩ (fun H locs hP hD hS => ?_)
    exact rt_i C hr hlk hP hD hS ((if_neg s_1).trans ((if_neg s_3).trans ((if_neg s_5).trans ((if_pos s_7).trans rfl)))) dX6_changeLock_72
  by_cases s_9 : x1 = 5
  · refine lv_tableIn (tgt := 73) hx hb dX6_changeLock_1 (by rw [s_9]; decide) (by rw [s_9]; decide) (by rw [s_9]; rfl) (by decide) ?_
    refine lv_aload_n hx hb dX6_changeLock_73 rfl (lv_at hl 0 rfl) ?_
    refine lv_iconst (v := 1) hx hb dX6_changeLock_74 (by decide) ?_
    refine kv_i C (c_X6_setSecret l D cI cZ ad u 1 hA (by decide)) (cwV 1 C.2.2.2.2.1 gX6_changeLock_X6_setSecret rfl rfl rfl hdX6_setSecret ⟨Nat.le_of_ble_eq_true rfl, Nat.le_of_ble_eq_true rfl⟩) (ci := 6) (q0 := 0) rfl rfl rfl hP hD hS (sp_self (fun u => (w_6 cI cZ ad u)) 15 (fun _ => rfl)) rfl hl.1 rfl (Nat.le_of_ble_eq_true rfl) dX6_changeLock_75 ⟨Nat.zero_le _, Nat.zero_le _⟩ (fun H locs hP hD hS => ?_)
    exact rt_i C hr hlk hP hD hS ((if_neg s_1).trans ((if_neg s_3).trans ((if_neg s_5).trans ((if_neg s_7).trans ((if_pos s_9).trans rfl))))) dX6_changeLock_78
  by_cases s_11 : x1 = 8
  · refine lv_tableIn (tgt := 79) hx hb dX6_changeLock_1 (by rw [s_11]; decide) (by rw [s_11]; decide) (by rw [s_11]; rfl) (by decide) ?_
    refine lv_aload_n hx hb dX6_changeLock_79 rfl (lv_at hl 0 rfl) ?_
    refine kv_i C (c_X6_force l D cI cZ ad u  ) (cwV 0 C.2.2.2.2.1 gX6_changeLock_X6_force rfl rfl rfl hdX6_force ⟨Nat.le_of_ble_eq_true rfl, Nat.le_of_ble_eq_true rfl⟩) (ci := 6) (q0 := 0) rfl rfl rfl hP hD hS (sp_self (fun u => (w_6 cI cZ ad u)) 15 (fun _ => rfl)) rfl hl.1 rfl (Nat.le_of_ble_eq_true rfl) dX6_changeLock_80 ⟨Nat.zero_le _, Nat.zero_le _⟩ (fun H locs hP hD hS => ?_)
    exact rt_i C hr hlk hP hD hS ((if_neg s_1).trans ((if_neg s_3).trans ((if_neg s_5).trans ((if_neg s_7).trans ((if_neg s_9).trans ((if_pos s_11).trans rfl)))))) dX6_changeLock_83
  refine tb_any (tgt := 84) hx hb dX6_changeLock_1 ?_ (by decide) ?_
  · have q0 := lv_neT s_1 (a := 0) rfl
    have q1 := lv_neT s_3 (a := 1) rfl
    have q2 := lv_neT s_5 (a := 2) rfl
    have q3 := lv_neT s_7 (a := 4) rfl
    have q4 := lv_neT s_9 (a := 5) rfl
    have q5 := lv_neT s_11 (a := 8) rfl
    rcases (show x1.toInt = 3 ∨ x1.toInt = 6 ∨ x1.toInt = 7 ∨ (x1.toInt < 0 ∨ 8 < x1.toInt) by omega) with h | h | h | h
    · exact Or.inr ⟨by rw [h]; decide, by rw [h]; decide, by rw [h]; rfl⟩
    · exact Or.inr ⟨by rw [h]; decide, by rw [h]; decide, by rw [h]; rfl⟩
    · exact Or.inr ⟨by rw [h]; decide, by rw [h]; decide, by rw [h]; rfl⟩
    · exact Or.inl h
  · refine lv_aload_n hx hb dX6_changeLock_84 rfl (lv_at hl 0 rfl) ?_
    refine lv_bipush (v := 16) hx hb dX6_changeLock_85 (by decide) ?_
    refine kv_i C (c_X6_refuse l D cI cZ ad u 16 ) (cwV 1 C.2.2.2.2.1 gX6_changeLock_X6_refuse rfl rfl rfl hdX6_refuse ⟨Nat.le_of_ble_eq_true rfl, Nat.le_of_ble_eq_true rfl⟩) (ci := 6) (q0 := 0) rfl rfl rfl hP hD hS (sp_self (fun u => (w_6 cI cZ ad u)) 15 (fun _ => rfl)) rfl hl.1 rfl (Nat.le_of_ble_eq_true rfl) dX6_changeLock_87 ⟨Nat.zero_le _, Nat.zero_le _⟩ (fun H locs hP hD hS => ?_)
    exact rt_i C hr hlk hP hD hS ((if_neg s_1).trans ((if_neg s_3).trans ((if_neg s_5).trans ((if_neg s_7).trans ((if_neg s_9).trans ((if_neg s_11).trans rfl)))))) dX6_changeLock_90
theorem ln_X6_obey_1 : Cond.fieldLink RX6 204 "BlockCard" "well" "I" ∈ wsX6_obey := List.mem_of_getElem? (i := 1) rfl
theorem in_X6_obey_6 : ∀ w ∈ wsX60, w ∈ wsX6_obey := fun w h => List.mem_cons_of_mem _ (List.mem_append_left _ (List.mem_append_left _ (List.mem_append_left _ (List.mem_append_left _ (List.mem_append_left _ (List.mem_append_left _ (List.mem_append_right _ h)))))))
set_option maxHeartbeats 4000000 in
set_option maxRecDepth 100000 in
theorem c_X6_obey (l : Launch) (D : va_G) (cI cZ : ClassId) (ad : Nat → Nat) (u : cd_S) (x1 : Int32) (x2 : Int32) (hA : pc_A u) : Ct_i l yX6_obey wsX6_obey ({ frames := 5, cells := 0, slots := 0, locals := 110 } : Room) D (ct_T cI cZ) [.ref (ad 0), .int x1, .int x2] (w_6 cI cZ ad u) (fun u => (w_6 cI cZ ad u)) (f_X6_obey u x1 x2) := by
  refine en_i (cc := cX6_obey) (maxL := 3) (ret := (some .int)) (own := RX6) (by decide +kernel) rfl rfl (Nat.le_of_ble_eq_true rfl) ?_
  intro p e s m args below meth c A ls C hr hlk hP hD hS hl
  have hx := C.1
  have hb := C.2.1
  have hl : lv_has ls 3 [(0, .ref (ad 0)), (1, .int x1), (2, .int x2)] := hl
  refine lv_iload_n hx hb dX6_obey_0 rfl (lv_at hl 1 rfl) ?_
  by_cases s_1 : x1 = 0
  · refine lv_tableIn (tgt := 188) hx hb dX6_obey_1 (by rw [s_1]; decide) (by rw [s_1]; decide) (by rw [s_1]; rfl) (by decide) ?_
    refine lv_aload_n hx hb dX6_obey_188 rfl (lv_at hl 0 rfl) ?_
    refine kv_i C (c_X6_reset l D cI cZ ad u  hA.1) (cwV 0 C.2.2.2.2.1 gX6_obey_X6_reset rfl rfl rfl hdX6_reset ⟨Nat.le_of_ble_eq_true rfl, Nat.le_of_ble_eq_true rfl⟩) (ci := 6) (q0 := 0) rfl rfl rfl hP hD hS (sp_self (fun u => (w_6 cI cZ ad u)) 15 (fun _ => rfl)) rfl hl.1 rfl (Nat.le_of_ble_eq_true rfl) dX6_obey_189 ⟨Nat.zero_le _, Nat.zero_le _⟩ (fun H locs hP hD hS => ?_)
    exact rt_i C hr hlk hP hD hS ((if_pos s_1).trans rfl) dX6_obey_192
  by_cases s_3 : x1 = 1
  · refine lv_tableIn (tgt := 193) hx hb dX6_obey_1 (by rw [s_3]; decide) (by rw [s_3]; decide) (by rw [s_3]; rfl) (by decide) ?_
    refine lv_aload_n hx hb dX6_obey_193 rfl (lv_at hl 0 rfl) ?_
    refine kv_i C (c_X6_wake l D cI cZ ad u  ) (cwV 0 C.2.2.2.2.1 gX6_obey_X6_wake rfl rfl rfl hdX6_wake ⟨Nat.le_of_ble_eq_true rfl, Nat.le_of_ble_eq_true rfl⟩) (ci := 6) (q0 := 0) rfl rfl rfl hP hD hS (sp_self (fun u => (w_6 cI cZ ad u)) 15 (fun _ => rfl)) rfl hl.1 rfl (Nat.le_of_ble_eq_true rfl) dX6_obey_194 ⟨Nat.zero_le _, Nat.zero_le _⟩ (fun H locs hP hD hS => ?_)
    exact rt_i C hr hlk hP hD hS ((if_neg s_1).trans ((if_pos s_3).trans rfl)) dX6_obey_197
  by_cases s_5 : x1 = 2
  · refine lv_tableIn (tgt := 198) hx hb dX6_obey_1 (by rw [s_5]; decide) (by rw [s_5]; decide) (by rw [s_5]; rfl) (by decide) ?_
    refine lv_aload_n hx hb dX6_obey_198 rfl (lv_at hl 0 rfl) ?_
    refine kv_i C (c_X6_tellNumber l D cI cZ ad u  ) (cwV 0 C.2.2.2.2.1 gX6_obey_X6_tellNumber rfl rfl rfl hdX6_tellNumber ⟨Nat.le_of_ble_eq_true rfl, Nat.le_of_ble_eq_true rfl⟩) (ci := 6) (q0 := 0) rfl rfl rfl hP hD hS (sp_self (fun u => (w_6 cI cZ ad u)) 15 (fun _ => rfl)) rfl hl.1 rfl (Nat.le_of_ble_eq_true rfl) dX6_obey_199 ⟨Nat.zero_le _, Nat.zero_le _⟩ (fun H locs hP hD hS => ?_)
    exact rt_i C hr hlk hP hD hS ((if_neg s_1).trans ((if_neg s_3).trans ((if_pos s_5).trans rfl))) dX6_obey_202
  by_cases s_7 : x1 = 3
  · refine lv_tableIn (tgt := 203) hx hb dX6_obey_1 (by rw [s_7]; decide) (by rw [s_7]; decide) (by rw [s_7]; rfl) (by decide) ?_
    refine lv_aload_n hx hb dX6_obey_203 rfl (lv_at hl 0 rfl) ?_
    refine kv_i C (c_X6_takeAddress l D cI cZ ad u  ) (cwV 0 C.2.2.2.2.1 gX6_obey_X6_takeAddress rfl rfl rfl hdX6_takeAddress ⟨Nat.le_of_ble_eq_true rfl, Nat.le_of_ble_eq_true rfl⟩) (ci := 6) (q0 := 0) rfl rfl rfl hP hD hS (sp_self (fun u => (w_6 cI cZ ad u)) 15 (fun _ => rfl)) rfl hl.1 rfl (Nat.le_of_ble_eq_true rfl) dX6_obey_204 ⟨Nat.zero_le _, Nat.zero_le _⟩ (fun H locs hP hD hS => ?_)
    exact rt_i C hr hlk hP hD hS ((if_neg s_1).trans ((if_neg s_3).trans ((if_neg s_5).trans ((if_pos s_7).trans rfl)))) dX6_obey_207
  by_cases s_9 : x1 = 6
  · refine lv_tableIn (tgt := 220) hx hb dX6_obey_1 (by rw [s_9]; decide) (by rw [s_9]; decide) (by rw [s_9]; rfl) (by decide) ?_
    refine lv_aload_n hx hb dX6_obey_220 rfl (lv_at hl 0 rfl) ?_
    refine lv_iload_n hx hb dX6_obey_221 rfl (lv_at hl 2 rfl) ?_
    refine kv_i C (c_X6_switchLines l D cI cZ ad u x2 ) (cwV 1 C.2.2.2.2.1 gX6_obey_X6_switchLines rfl rfl rfl hdX6_switchLines ⟨Nat.le_of_ble_eq_true rfl, Nat.le_of_ble_eq_true rfl⟩) (ci := 6) (q0 := 0) rfl rfl rfl hP hD hS (sp_self (fun u => (w_6 cI cZ ad u)) 15 (fun _ => rfl)) rfl hl.1 rfl (Nat.le_of_ble_eq_true rfl) dX6_obey_222 ⟨Nat.zero_le _, Nat.zero_le _⟩ (fun H locs hP hD hS => ?_)
    exact rt_i C hr hlk hP hD hS ((if_neg s_1).trans ((if_neg s_3).trans ((if_neg s_5).trans ((if_neg s_7).trans ((if_pos s_9).trans rfl))))) dX6_obey_225
  by_cases s_11 : x1 = 7
  · refine lv_tableIn (tgt := 208) hx hb dX6_obey_1 (by rw [s_11]; decide) (by rw [s_11]; decide) (by rw [s_11]; rfl) (by decide) ?_
    refine lv_aload_n hx hb dX6_obey_208 rfl (lv_at hl 0 rfl) ?_
    refine lv_iload_n hx hb dX6_obey_209 rfl (lv_at hl 2 rfl) ?_
    refine kv_i C (c_X6_choose l D cI cZ ad u x2 ) (cwV 1 C.2.2.2.2.1 gX6_obey_X6_choose rfl rfl rfl hdX6_choose ⟨Nat.le_of_ble_eq_true rfl, Nat.le_of_ble_eq_true rfl⟩) (ci := 6) (q0 := 0) rfl rfl rfl hP hD hS (sp_self (fun u => (w_6 cI cZ ad u)) 15 (fun _ => rfl)) rfl hl.1 rfl (Nat.le_of_ble_eq_true rfl) dX6_obey_210 ⟨Nat.zero_le _, Nat.zero_le _⟩ (fun H locs hP hD hS => ?_)
    exact rt_i C hr hlk hP hD hS ((if_neg s_1).trans ((if_neg s_3).trans ((if_neg s_5).trans ((if_neg s_7).trans ((if_neg s_9).trans ((if_pos s_11).trans rfl)))))) dX6_obey_213
  by_cases s_13 : x1 = 12
  · refine lv_tableIn (tgt := 272) hx hb dX6_obey_1 (by rw [s_13]; decide) (by rw [s_13]; decide) (by rw [s_13]; rfl) (by decide) ?_
    refine lv_aload_n hx hb dX6_obey_272 rfl (lv_at hl 0 rfl) ?_
    refine kv_i C (c_X6_stop l D cI cZ ad u  ) (cwV 0 C.2.2.2.2.1 gX6_obey_X6_stop rfl rfl rfl hdX6_stop ⟨Nat.le_of_ble_eq_true rfl, Nat.le_of_ble_eq_true rfl⟩) (ci := 6) (q0 := 0) rfl rfl rfl hP hD hS (sp_self (fun u => (w_6 cI cZ ad u)) 15 (fun _ => rfl)) rfl hl.1 rfl (Nat.le_of_ble_eq_true rfl) dX6_obey_273 ⟨Nat.zero_le _, Nat.zero_le _⟩ (fun H locs hP hD hS => ?_)
    exact rt_i C hr hlk hP hD hS ((if_neg s_1).trans ((if_neg s_3).trans ((if_neg s_5).trans ((if_neg s_7).trans ((if_neg s_9).trans ((if_neg s_11).trans ((if_pos s_13).trans rfl))))))) dX6_obey_276
  by_cases s_15 : x1 = 13
  · refine lv_tableIn (tgt := 214) hx hb dX6_obey_1 (by rw [s_15]; decide) (by rw [s_15]; decide) (by rw [s_15]; rfl) (by decide) ?_
    refine lv_aload_n hx hb dX6_obey_214 rfl (lv_at hl 0 rfl) ?_
    refine lv_iload_n hx hb dX6_obey_215 rfl (lv_at hl 2 rfl) ?_
    refine kv_i C (c_X6_tellStatus l D cI cZ ad u x2 ) (cwV 1 C.2.2.2.2.1 gX6_obey_X6_tellStatus rfl rfl rfl hdX6_tellStatus ⟨Nat.le_of_ble_eq_true rfl, Nat.le_of_ble_eq_true rfl⟩) (ci := 6) (q0 := 0) rfl rfl rfl hP hD hS (sp_self (fun u => (w_6 cI cZ ad u)) 15 (fun _ => rfl)) rfl hl.1 rfl (Nat.le_of_ble_eq_true rfl) dX6_obey_216 ⟨Nat.zero_le _, Nat.zero_le _⟩ (fun H locs hP hD hS => ?_)
    exact rt_i C hr hlk hP hD hS ((if_neg s_1).trans ((if_neg s_3).trans ((if_neg s_5).trans ((if_neg s_7).trans ((if_neg s_9).trans ((if_neg s_11).trans ((if_neg s_13).trans ((if_pos s_15).trans rfl)))))))) dX6_obey_219
  by_cases s_17 : x1 = 17
  · refine lv_tableIn (tgt := 238) hx hb dX6_obey_1 (by rw [s_17]; decide) (by rw [s_17]; decide) (by rw [s_17]; rfl) (by decide) ?_
    refine lv_aload_n hx hb dX6_obey_238 rfl (lv_at hl 0 rfl) ?_
    refine lv_iconst (v := 5) hx hb dX6_obey_239 (by decide) ?_
    refine lv_iload_n hx hb dX6_obey_240 rfl (lv_at hl 2 rfl) ?_
    refine lv_iconst (v := 1) hx hb dX6_obey_241 (by decide) ?_
    refine kv_i C (c_X6_beginStream l D cI cZ ad u 5 x2 1 ) (cwV 3 C.2.2.2.2.1 gX6_obey_X6_beginStream rfl rfl rfl hdX6_beginStream ⟨Nat.le_of_ble_eq_true rfl, Nat.le_of_ble_eq_true rfl⟩) (ci := 6) (q0 := 0) rfl rfl rfl hP hD hS (sp_self (fun u => (w_6 cI cZ ad u)) 15 (fun _ => rfl)) rfl hl.1 rfl (Nat.le_of_ble_eq_true rfl) dX6_obey_242 ⟨Nat.zero_le _, Nat.zero_le _⟩ (fun H locs hP hD hS => ?_)
    exact rt_i C hr hlk hP hD hS ((if_neg s_1).trans ((if_neg s_3).trans ((if_neg s_5).trans ((if_neg s_7).trans ((if_neg s_9).trans ((if_neg s_11).trans ((if_neg s_13).trans ((if_neg s_15).trans ((if_pos s_17).trans rfl))))))))) dX6_obey_245
  by_cases s_19 : x1 = 18
  · refine lv_tableIn (tgt := 246) hx hb dX6_obey_1 (by rw [s_19]; decide) (by rw [s_19]; decide) (by rw [s_19]; rfl) (by decide) ?_
    refine lv_aload_n hx hb dX6_obey_246 rfl (lv_at hl 0 rfl) ?_
    refine lv_iconst (v := 5) hx hb dX6_obey_247 (by decide) ?_
    refine lv_iload_n hx hb dX6_obey_248 rfl (lv_at hl 2 rfl) ?_
    refine lv_iconst (v := 0) hx hb dX6_obey_249 (by decide) ?_
    refine kv_i C (c_X6_beginStream l D cI cZ ad u 5 x2 0 ) (cwV 3 C.2.2.2.2.1 gX6_obey_X6_beginStream rfl rfl rfl hdX6_beginStream ⟨Nat.le_of_ble_eq_true rfl, Nat.le_of_ble_eq_true rfl⟩) (ci := 6) (q0 := 0) rfl rfl rfl hP hD hS (sp_self (fun u => (w_6 cI cZ ad u)) 15 (fun _ => rfl)) rfl hl.1 rfl (Nat.le_of_ble_eq_true rfl) dX6_obey_250 ⟨Nat.zero_le _, Nat.zero_le _⟩ (fun H locs hP hD hS => ?_)
    exact rt_i C hr hlk hP hD hS ((if_neg s_1).trans ((if_neg s_3).trans ((if_neg s_5).trans ((if_neg s_7).trans ((if_neg s_9).trans ((if_neg s_11).trans ((if_neg s_13).trans ((if_neg s_15).trans ((if_neg s_17).trans ((if_pos s_19).trans rfl)))))))))) dX6_obey_253
  by_cases s_21 : x1 = 21
  · refine lv_tableIn (tgt := 226) hx hb dX6_obey_1 (by rw [s_21]; decide) (by rw [s_21]; decide) (by rw [s_21]; rfl) (by decide) ?_
    refine lv_aload_n hx hb dX6_obey_226 rfl (lv_at hl 0 rfl) ?_
    refine lv_iload_n hx hb dX6_obey_227 rfl (lv_at hl 2 rfl) ?_
    refine kv_i C (c_X6_movePoint l D cI cZ ad u x2 ) (cwV 1 C.2.2.2.2.1 gX6_obey_X6_movePoint rfl rfl rfl hdX6_movePoint ⟨Nat.le_of_ble_eq_true rfl, Nat.le_of_ble_eq_true rfl⟩) (ci := 6) (q0 := 0) rfl rfl rfl hP hD hS (sp_self (fun u => (w_6 cI cZ ad u)) 15 (fun _ => rfl)) rfl hl.1 rfl (Nat.le_of_ble_eq_true rfl) dX6_obey_228 ⟨Nat.zero_le _, Nat.zero_le _⟩ (fun H locs hP hD hS => ?_)
    exact rt_i C hr hlk hP hD hS ((if_neg s_1).trans ((if_neg s_3).trans ((if_neg s_5).trans ((if_neg s_7).trans ((if_neg s_9).trans ((if_neg s_11).trans ((if_neg s_13).trans ((if_neg s_15).trans ((if_neg s_17).trans ((if_neg s_19).trans ((if_pos s_21).trans rfl))))))))))) dX6_obey_231
  by_cases s_23 : x1 = 22
  · refine lv_tableIn (tgt := 277) hx hb dX6_obey_1 (by rw [s_23]; decide) (by rw [s_23]; decide) (by rw [s_23]; rfl) (by decide) ?_
    refine lv_aload_n hx hb dX6_obey_277 rfl (lv_at hl 0 rfl) ?_
    refine gt6_9 C hP in_X6_obey_6 ln_X6_obey_1 (v := ((u 0).1 9)) rfl dX6_obey_278 ?_
    exact rt_i C hr hlk hP hD hS ((if_neg s_1).trans ((if_neg s_3).trans ((if_neg s_5).trans ((if_neg s_7).trans ((if_neg s_9).trans ((if_neg s_11).trans ((if_neg s_13).trans ((if_neg s_15).trans ((if_neg s_17).trans ((if_neg s_19).trans ((if_neg s_21).trans ((if_pos s_23).trans rfl)))))))))))) dX6_obey_281
  by_cases s_24 : x1 = 23
  · refine lv_tableIn (tgt := 232) hx hb dX6_obey_1 (by rw [s_24]; decide) (by rw [s_24]; decide) (by rw [s_24]; rfl) (by decide) ?_
    refine lv_aload_n hx hb dX6_obey_232 rfl (lv_at hl 0 rfl) ?_
    refine lv_iload_n hx hb dX6_obey_233 rfl (lv_at hl 2 rfl) ?_
    refine kv_i C (c_X6_expect l D cI cZ ad u x2 ) (cwV 1 C.2.2.2.2.1 gX6_obey_X6_expect rfl rfl rfl hdX6_expect ⟨Nat.le_of_ble_eq_true rfl, Nat.le_of_ble_eq_true rfl⟩) (ci := 6) (q0 := 0) rfl rfl rfl hP hD hS (sp_self (fun u => (w_6 cI cZ ad u)) 15 (fun _ => rfl)) rfl hl.1 rfl (Nat.le_of_ble_eq_true rfl) dX6_obey_234 ⟨Nat.zero_le _, Nat.zero_le _⟩ (fun H locs hP hD hS => ?_)
    exact rt_i C hr hlk hP hD hS ((if_neg s_1).trans ((if_neg s_3).trans ((if_neg s_5).trans ((if_neg s_7).trans ((if_neg s_9).trans ((if_neg s_11).trans ((if_neg s_13).trans ((if_neg s_15).trans ((if_neg s_17).trans ((if_neg s_19).trans ((if_neg s_21).trans ((if_neg s_23).trans ((if_pos s_24).trans rfl))))))))))))) dX6_obey_237
  by_cases s_26 : x1 = 24
  · refine lv_tableIn (tgt := 254) hx hb dX6_obey_1 (by rw [s_26]; decide) (by rw [s_26]; decide) (by rw [s_26]; rfl) (by decide) ?_
    refine lv_aload_n hx hb dX6_obey_254 rfl (lv_at hl 0 rfl) ?_
    refine lv_bipush (v := 6) hx hb dX6_obey_255 (by decide) ?_
    refine lv_iload_n hx hb dX6_obey_257 rfl (lv_at hl 2 rfl) ?_
    refine lv_iconst (v := 1) hx hb dX6_obey_258 (by decide) ?_
    refine kv_i C (c_X6_beginStream l D cI cZ ad u 6 x2 1 ) (cwV 3 C.2.2.2.2.1 gX6_obey_X6_beginStream rfl rfl rfl hdX6_beginStream ⟨Nat.le_of_ble_eq_true rfl, Nat.le_of_ble_eq_true rfl⟩) (ci := 6) (q0 := 0) rfl rfl rfl hP hD hS (sp_self (fun u => (w_6 cI cZ ad u)) 15 (fun _ => rfl)) rfl hl.1 rfl (Nat.le_of_ble_eq_true rfl) dX6_obey_259 ⟨Nat.zero_le _, Nat.zero_le _⟩ (fun H locs hP hD hS => ?_)
    exact rt_i C hr hlk hP hD hS ((if_neg s_1).trans ((if_neg s_3).trans ((if_neg s_5).trans ((if_neg s_7).trans ((if_neg s_9).trans ((if_neg s_11).trans ((if_neg s_13).trans ((if_neg s_15).trans ((if_neg s_17).trans ((if_neg s_19).trans ((if_neg s_21).trans ((if_neg s_23).trans ((if_neg s_24).trans ((if_pos s_26).trans rfl)))))))))))))) dX6_obey_262
  by_cases s_28 : x1 = 25
  · refine lv_tableIn (tgt := 263) hx hb dX6_obey_1 (by rw [s_28]; decide) (by rw [s_28]; decide) (by rw [s_28]; rfl) (by decide) ?_
    refine lv_aload_n hx hb dX6_obey_263 rfl (lv_at hl 0 rfl) ?_
    refine lv_bipush (v := 6) hx hb dX6_obey_264 (by decide) ?_
    refine lv_iload_n hx hb dX6_obey_266 rfl (lv_at hl 2 rfl) ?_
    refine lv_iconst (v := 0) hx hb dX6_obey_267 (by decide) ?_
    refine kv_i C (c_X6_beginStream l D cI cZ ad u 6 x2 0 ) (cwV 3 C.2.2.2.2.1 gX6_obey_X6_beginStream rfl rfl rfl hdX6_beginStream ⟨Nat.le_of_ble_eq_true rfl, Nat.le_of_ble_eq_true rfl⟩) (ci := 6) (q0 := 0) rfl rfl rfl hP hD hS (sp_self (fun u => (w_6 cI cZ ad u)) 15 (fun _ => rfl)) rfl hl.1 rfl (Nat.le_of_ble_eq_true rfl) dX6_obey_268 ⟨Nat.zero_le _, Nat.zero_le _⟩ (fun H locs hP hD hS => ?_)
    exact rt_i C hr hlk hP hD hS ((if_neg s_1).trans ((if_neg s_3).trans ((if_neg s_5).trans ((if_neg s_7).trans ((if_neg s_9).trans ((if_neg s_11).trans ((if_neg s_13).trans ((if_neg s_15).trans ((if_neg s_17).trans ((if_neg s_19).trans ((if_neg s_21).trans ((if_neg s_23).trans ((if_neg s_24).trans ((if_neg s_26).trans ((if_pos s_28).trans rfl))))))))))))))) dX6_obey_271
  by_cases s_30 : x1 = 32
  · refine lv_tableIn (tgt := 282) hx hb dX6_obey_1 (by rw [s_30]; decide) (by rw [s_30]; decide) (by rw [s_30]; rfl) (by decide) ?_
    refine lv_aload_n hx hb dX6_obey_282 rfl (lv_at hl 0 rfl) ?_
    refine lv_iload_n hx hb dX6_obey_283 rfl (lv_at hl 2 rfl) ?_
    refine kv_i C (c_X6_eraseFrom l D cI cZ ad u x2 ) (cwV 1 C.2.2.2.2.1 gX6_obey_X6_eraseFrom rfl rfl rfl hdX6_eraseFrom ⟨Nat.le_of_ble_eq_true rfl, Nat.le_of_ble_eq_true rfl⟩) (ci := 6) (q0 := 0) rfl rfl rfl hP hD hS (sp_self (fun u => (w_6 cI cZ ad u)) 15 (fun _ => rfl)) rfl hl.1 rfl (Nat.le_of_ble_eq_true rfl) dX6_obey_284 ⟨Nat.zero_le _, Nat.zero_le _⟩ (fun H locs hP hD hS => ?_)
    exact rt_i C hr hlk hP hD hS ((if_neg s_1).trans ((if_neg s_3).trans ((if_neg s_5).trans ((if_neg s_7).trans ((if_neg s_9).trans ((if_neg s_11).trans ((if_neg s_13).trans ((if_neg s_15).trans ((if_neg s_17).trans ((if_neg s_19).trans ((if_neg s_21).trans ((if_neg s_23).trans ((if_neg s_24).trans ((if_neg s_26).trans ((if_neg s_28).trans ((if_pos s_30).trans rfl)))))))))))))))) dX6_obey_287
  by_cases s_32 : x1 = 33
  · refine lv_tableIn (tgt := 288) hx hb dX6_obey_1 (by rw [s_32]; decide) (by rw [s_32]; decide) (by rw [s_32]; rfl) (by decide) ?_
    refine lv_aload_n hx hb dX6_obey_288 rfl (lv_at hl 0 rfl) ?_
    refine lv_iload_n hx hb dX6_obey_289 rfl (lv_at hl 2 rfl) ?_
    refine kv_i C (c_X6_eraseTo l D cI cZ ad u x2 ) (cwV 1 C.2.2.2.2.1 gX6_obey_X6_eraseTo rfl rfl rfl hdX6_eraseTo ⟨Nat.le_of_ble_eq_true rfl, Nat.le_of_ble_eq_true rfl⟩) (ci := 6) (q0 := 0) rfl rfl rfl hP hD hS (sp_self (fun u => (w_6 cI cZ ad u)) 15 (fun _ => rfl)) rfl hl.1 rfl (Nat.le_of_ble_eq_true rfl) dX6_obey_290 ⟨Nat.zero_le _, Nat.zero_le _⟩ (fun H locs hP hD hS => ?_)
    exact rt_i C hr hlk hP hD hS ((if_neg s_1).trans ((if_neg s_3).trans ((if_neg s_5).trans ((if_neg s_7).trans ((if_neg s_9).trans ((if_neg s_11).trans ((if_neg s_13).trans ((if_neg s_15).trans ((if_neg s_17).trans ((if_neg s_19).trans ((if_neg s_21).trans ((if_neg s_23).trans ((if_neg s_24).trans ((if_neg s_26).trans ((if_neg s_28).trans ((if_neg s_30).trans ((if_pos s_32).trans rfl))))))))))))))))) dX6_obey_293
  by_cases s_34 : x1 = 38
  · refine lv_tableIn (tgt := 294) hx hb dX6_obey_1 (by rw [s_34]; decide) (by rw [s_34]; decide) (by rw [s_34]; rfl) (by decide) ?_
    refine lv_aload_n hx hb dX6_obey_294 rfl (lv_at hl 0 rfl) ?_
    refine kv_i C (c_X6_erase l D cI cZ ad u  ) (cwV 0 C.2.2.2.2.1 gX6_obey_X6_erase rfl rfl rfl hdX6_erase ⟨Nat.le_of_ble_eq_true rfl, Nat.le_of_ble_eq_true rfl⟩) (ci := 6) (q0 := 0) rfl rfl rfl hP hD hS (sp_self (fun u => (w_6 cI cZ ad u)) 15 (fun _ => rfl)) rfl hl.1 rfl (Nat.le_of_ble_eq_true rfl) dX6_obey_295 ⟨Nat.zero_le _, Nat.zero_le _⟩ (fun H locs hP hD hS => ?_)
    exact rt_i C hr hlk hP hD hS ((if_neg s_1).trans ((if_neg s_3).trans ((if_neg s_5).trans ((if_neg s_7).trans ((if_neg s_9).trans ((if_neg s_11).trans ((if_neg s_13).trans ((if_neg s_15).trans ((if_neg s_17).trans ((if_neg s_19).trans ((if_neg s_21).trans ((if_neg s_23).trans ((if_neg s_24).trans ((if_neg s_26).trans ((if_neg s_28).trans ((if_neg s_30).trans ((if_neg s_32).trans ((if_pos s_34).trans rfl)))))))))))))))))) dX6_obey_298
  by_cases s_36 : x1 = 42
  · refine lv_tableIn (tgt := 299) hx hb dX6_obey_1 (by rw [s_36]; decide) (by rw [s_36]; decide) (by rw [s_36]; rfl) (by decide) ?_
    refine lv_aload_n hx hb dX6_obey_299 rfl (lv_at hl 0 rfl) ?_
    refine lv_iload_n hx hb dX6_obey_300 rfl (lv_at hl 2 rfl) ?_
    refine kv_i C (c_X6_changeLock l D cI cZ ad u x2 hA) (cwV 1 C.2.2.2.2.1 gX6_obey_X6_changeLock rfl rfl rfl hdX6_changeLock ⟨Nat.le_of_ble_eq_true rfl, Nat.le_of_ble_eq_true rfl⟩) (ci := 6) (q0 := 0) rfl rfl rfl hP hD hS (sp_self (fun u => (w_6 cI cZ ad u)) 15 (fun _ => rfl)) rfl hl.1 rfl (Nat.le_of_ble_eq_true rfl) dX6_obey_301 ⟨Nat.zero_le _, Nat.zero_le _⟩ (fun H locs hP hD hS => ?_)
    exact rt_i C hr hlk hP hD hS ((if_neg s_1).trans ((if_neg s_3).trans ((if_neg s_5).trans ((if_neg s_7).trans ((if_neg s_9).trans ((if_neg s_11).trans ((if_neg s_13).trans ((if_neg s_15).trans ((if_neg s_17).trans ((if_neg s_19).trans ((if_neg s_21).trans ((if_neg s_23).trans ((if_neg s_24).trans ((if_neg s_26).trans ((if_neg s_28).trans ((if_neg s_30).trans ((if_neg s_32).trans ((if_neg s_34).trans ((if_pos s_36).trans rfl))))))))))))))))))) dX6_obey_304
  refine tb_any (tgt := 305) hx hb dX6_obey_1 ?_ (by decide) ?_
  · have q0 := lv_neT s_1 (a := 0) rfl
    have q1 := lv_neT s_3 (a := 1) rfl
    have q2 := lv_neT s_5 (a := 2) rfl
    have q3 := lv_neT s_7 (a := 3) rfl
    have q4 := lv_neT s_9 (a := 6) rfl
    have q5 := lv_neT s_11 (a := 7) rfl
    have q6 := lv_neT s_13 (a := 12) rfl
    have q7 := lv_neT s_15 (a := 13) rfl
    have q8 := lv_neT s_17 (a := 17) rfl
    have q9 := lv_neT s_19 (a := 18) rfl
    have q10 := lv_neT s_21 (a := 21) rfl
    have q11 := lv_neT s_23 (a := 22) rfl
    have q12 := lv_neT s_24 (a := 23) rfl
    have q13 := lv_neT s_26 (a := 24) rfl
    have q14 := lv_neT s_28 (a := 25) rfl
    have q15 := lv_neT s_30 (a := 32) rfl
    have q16 := lv_neT s_32 (a := 33) rfl
    have q17 := lv_neT s_34 (a := 38) rfl
    have q18 := lv_neT s_36 (a := 42) rfl
    rcases (show x1.toInt = 4 ∨ x1.toInt = 5 ∨ x1.toInt = 8 ∨ x1.toInt = 9 ∨ x1.toInt = 10 ∨ x1.toInt = 11 ∨ x1.toInt = 14 ∨ x1.toInt = 15 ∨ x1.toInt = 16 ∨ x1.toInt = 19 ∨ x1.toInt = 20 ∨ x1.toInt = 26 ∨ x1.toInt = 27 ∨ x1.toInt = 28 ∨ x1.toInt = 29 ∨ x1.toInt = 30 ∨ x1.toInt = 31 ∨ x1.toInt = 34 ∨ x1.toInt = 35 ∨ x1.toInt = 36 ∨ x1.toInt = 37 ∨ x1.toInt = 39 ∨ x1.toInt = 40 ∨ x1.toInt = 41 ∨ (x1.toInt < 0 ∨ 42 < x1.toInt) by omega) with h | h | h | h | h | h | h | h | h | h | h | h | h | h | h | h | h | h | h | h | h | h | h | h | h
    · exact Or.inr ⟨by rw [h]; decide, by rw [h]; decide, by rw [h]; rfl⟩
    · exact Or.inr ⟨by rw [h]; decide, by rw [h]; decide, by rw [h]; rfl⟩
    · exact Or.inr ⟨by rw [h]; decide, by rw [h]; decide, by rw [h]; rfl⟩
    · exact Or.inr ⟨by rw [h]; decide, by rw [h]; decide, by rw [h]; rfl⟩
    · exact Or.inr ⟨by rw [h]; decide, by rw [h]; decide, by rw [h]; rfl⟩
    · exact Or.inr ⟨by rw [h]; decide, by rw [h]; decide, by rw [h]; rfl⟩
    · exact Or.inr ⟨by rw [h]; decide, by rw [h]; decide, by rw [h]; rfl⟩
    · exact Or.inr ⟨by rw [h]; decide, by rw [h]; decide, by rw [h]; rfl⟩
    · exact Or.inr ⟨by rw [h]; decide, by rw [h]; decide, by rw [h]; rfl⟩
    · exact Or.inr ⟨by rw [h]; decide, by rw [h]; decide, by rw [h]; rfl⟩
    · exact Or.inr ⟨by rw [h]; decide, by rw [h]; decide, by rw [h]; rfl⟩
    · exact Or.inr ⟨by rw [h]; decide, by rw [h]; decide, by rw [h]; rfl⟩
    · exact Or.inr ⟨by rw [h]; decide, by rw [h]; decide, by rw [h]; rfl⟩
    · exact Or.inr ⟨by rw [h]; decide, by rw [h]; decide, by rw [h]; rfl⟩
    · exact Or.inr ⟨by rw [h]; decide, by rw [h]; decide, by rw [h]; rfl⟩
    · exact Or.inr ⟨by rw [h]; decide, by rw [h]; decide, by rw [h]; rfl⟩
    · exact Or.inr ⟨by rw [h]; decide, by rw [h]; decide, by rw [h]; rfl⟩
    · exact Or.inr ⟨by rw [h]; decide, by rw [h]; decide, by rw [h]; rfl⟩
    · exact Or.inr ⟨by rw [h]; decide, by rw [h]; decide, by rw [h]; rfl⟩
    · exact Or.inr ⟨by rw [h]; decide, by rw [h]; decide, by rw [h]; rfl⟩
    · exact Or.inr ⟨by rw [h]; decide, by rw [h]; decide, by rw [h]; rfl⟩
    · exact Or.inr ⟨by rw [h]; decide, by rw [h]; decide, by rw [h]; rfl⟩
    · exact Or.inr ⟨by rw [h]; decide, by rw [h]; decide, by rw [h]; rfl⟩
    · exact Or.inr ⟨by rw [h]; decide, by rw [h]; decide, by rw [h]; rfl⟩
    · exact Or.inl h
  · refine lv_bipush (v := (-4)) hx hb dX6_obey_305 (by decide) ?_
    exact rt_i C hr hlk hP hD hS ((if_neg s_1).trans ((if_neg s_3).trans ((if_neg s_5).trans ((if_neg s_7).trans ((if_neg s_9).trans ((if_neg s_11).trans ((if_neg s_13).trans ((if_neg s_15).trans ((if_neg s_17).trans ((if_neg s_19).trans ((if_neg s_21).trans ((if_neg s_23).trans ((if_neg s_24).trans ((if_neg s_26).trans ((if_neg s_28).trans ((if_neg s_30).trans ((if_neg s_32).trans ((if_neg s_34).trans ((if_neg s_36).trans rfl))))))))))))))))))) dX6_obey_307
set_option maxHeartbeats 4000000 in
set_option maxRecDepth 100000 in
theorem c_X6_send (l : Launch) (D : va_G) (cI cZ : ClassId) (ad : Nat → Nat) (u : cd_S) (x1 : Int32) (x2 : Int32) (x3 : Int32) (hA : pc_A u) : Ct_i l yX6_send wsX6_send ({ frames := 6, cells := 0, slots := 0, locals := 132 } : Room) D (ct_T cI cZ) [.ref (ad 0), .int x1, .int x2, .int x3] (w_6 cI cZ ad u) (fun u => (w_6 cI cZ ad u)) (f_X6_send u x1 x2 x3) := by
  refine en_i (cc := cX6_send) (maxL := 4) (ret := (some .int)) (own := RX6) (by decide +kernel) rfl rfl (Nat.le_of_ble_eq_true rfl) ?_
  intro p e s m args below meth c A ls C hr hlk hP hD hS hl
  have hx := C.1
  have hb := C.2.1
  have hl : lv_has ls 4 [(0, .ref (ad 0)), (1, .int x1), (2, .int x2), (3, .int x3)] := hl
  refine lv_iload_n hx hb dX6_send_0 rfl (lv_at hl 1 rfl) ?_
  refine lv_iload_n hx hb dX6_send_1 rfl (lv_at hl 2 rfl) ?_
  refine ks_p C (c_X6_isNoCommand l D cI cZ x1 x2 ) (va_cwS 2 C.2.2.2.2.1 gX6_send_X6_isNoCommand rfl rfl rfl hdX6_isNoCommand ⟨Nat.le_of_ble_eq_true rfl, Nat.le_of_ble_eq_true rfl⟩) hP hD hS rfl hl.1 rfl (Nat.le_of_ble_eq_true rfl) dX6_send_2 ⟨Nat.zero_le _, Nat.zero_le _⟩ (fun H locs hP hS => ?_)
  refine lv_if_ne (tgt := 18) hx hb dX6_send_5 (by decide) (fun c_1 => ?_) (fun c_1 => ?_)
  · refine lv_iconst (v := (-1)) hx hb dX6_send_18 (by decide) ?_
    exact rt_i C hr hlk hP hD hS ((if_neg c_1).trans rfl) dX6_send_19
  · refine lv_iload_n hx hb dX6_send_8 rfl (lv_at hl 3 rfl) ?_
    refine lv_iconst (v := 0) hx hb dX6_send_9 (by decide) ?_
    refine lv_bipush (v := 127) hx hb dX6_send_10 (by decide) ?_
    refine ks_p C (c_X6_isOutside l D cI cZ x3 0 127 ) (va_cwS 3 C.2.2.2.2.1 gX6_send_X6_isOutside rfl rfl rfl hdX6_isOutside ⟨Nat.le_of_ble_eq_true rfl, Nat.le_of_ble_eq_true rfl⟩) hP hD hS rfl hl.1 rfl (Nat.le_of_ble_eq_true rfl) dX6_send_12 ⟨Nat.zero_le _, Nat.zero_le _⟩ (fun H locs hP hS => ?_)
    refine lv_if_eq (tgt := 20) hx hb dX6_send_15 (by decide) (fun c_2 => ?_) (fun c_2 => ?_)
    · refine lv_aload_n hx hb dX6_send_20 rfl (lv_at hl 0 rfl) ?_
      refine lv_iload_n hx hb dX6_send_21 rfl (lv_at hl 1 rfl) ?_
      refine lv_iload_n hx hb dX6_send_22 rfl (lv_at hl 2 rfl) ?_
      refine lv_iload_n hx hb dX6_send_23 rfl (lv_at hl 3 rfl) ?_
      refine kv_i C (c_X6_hears l D cI cZ ad u x1 x2 x3 ) (cwV 3 C.2.2.2.2.1 gX6_send_X6_hears rfl rfl rfl hdX6_hears ⟨Nat.le_of_ble_eq_true rfl, Nat.le_of_ble_eq_true rfl⟩) (ci := 6) (q0 := 0) rfl rfl rfl hP hD hS (sp_self (fun u => (w_6 cI cZ ad u)) 15 (fun _ => rfl)) rfl hl.1 rfl (Nat.le_of_ble_eq_true rfl) dX6_send_24 ⟨Nat.zero_le _, Nat.zero_le _⟩ (fun H locs hP hD hS => ?_)
      refine lv_if_eq (tgt := 39) hx hb dX6_send_27 (by decide) (fun c_4 => ?_) (fun c_4 => ?_)
      · refine lv_bipush (v := (-4)) hx hb dX6_send_39 (by decide) ?_
        exact rt_i C hr hlk hP hD hS ((if_pos c_1).trans ((if_pos c_2).trans ((if_pos c_4).trans rfl))) dX6_send_41
      · refine lv_aload_n hx hb dX6_send_30 rfl (lv_at hl 0 rfl) ?_
        refine lv_iload_n hx hb dX6_send_31 rfl (lv_at hl 1 rfl) ?_
        refine lv_iload_n hx hb dX6_send_32 rfl (lv_at hl 2 rfl) ?_
        refine kv_i C (c_X6_obey l D cI cZ ad (f_X6_hears u x1 x2 x3).2 x1 x2 (ob_hears hA)) (cwV 2 C.2.2.2.2.1 gX6_send_X6_obey rfl rfl rfl hdX6_obey ⟨Nat.le_of_ble_eq_true rfl, Nat.le_of_ble_eq_true rfl⟩) (ci := 6) (q0 := 0) rfl rfl rfl hP hD hS (sp_self (fun u => (w_6 cI cZ ad u)) 15 (fun _ => rfl)) rfl hl.1 rfl (Nat.le_of_ble_eq_true rfl) dX6_send_33 ⟨Nat.zero_le _, Nat.zero_le _⟩ (fun H locs hP hD hS => ?_)
        refine lv_goto (tgt := 41) hx hb dX6_send_36 (by decide) ?_
        exact rt_i C hr hlk hP hD hS ((if_pos c_1).trans ((if_pos c_2).trans ((if_neg c_4).trans rfl))) dX6_send_41
    · refine lv_iconst (v := (-1)) hx hb dX6_send_18 (by decide) ?_
      exact rt_i C hr hlk hP hD hS ((if_pos c_1).trans ((if_neg c_2).trans rfl)) dX6_send_19
set_option maxHeartbeats 4000000 in
set_option maxRecDepth 100000 in
theorem c_X6_tell (l : Launch) (D : va_G) (cI cZ : ClassId) (ad : Nat → Nat) (u : cd_S) (x1 : Int32) (x2 : Int32) (hA : pc_A u) : Ct_i l yX6_tell wsX6_tell ({ frames := 6, cells := 0, slots := 0, locals := 132 } : Room) D (ct_T cI cZ) [.ref (ad 0), .int x1, .int x2] (w_6 cI cZ ad u) (fun u => (w_6 cI cZ ad u)) (f_X6_tell u x1 x2) := by
  refine en_i (cc := cX6_tell) (maxL := 3) (ret := (some .int)) (own := RX6) (by decide +kernel) rfl rfl (Nat.le_of_ble_eq_true rfl) ?_
  intro p e s m args below meth c A ls C hr hlk hP hD hS hl
  have hx := C.1
  have hb := C.2.1
  have hl : lv_has ls 3 [(0, .ref (ad 0)), (1, .int x1), (2, .int x2)] := hl
  refine lv_iload_n hx hb dX6_tell_0 rfl (lv_at hl 1 rfl) ?_
  refine lv_iload_n hx hb dX6_tell_1 rfl (lv_at hl 2 rfl) ?_
  refine ks_p C (c_X6_isNoCommand l D cI cZ x1 x2 ) (va_cwS 2 C.2.2.2.2.1 gX6_tell_X6_isNoCommand rfl rfl rfl hdX6_isNoCommand ⟨Nat.le_of_ble_eq_true rfl, Nat.le_of_ble_eq_true rfl⟩) hP hD hS rfl hl.1 rfl (Nat.le_of_ble_eq_true rfl) dX6_tell_2 ⟨Nat.zero_le _, Nat.zero_le _⟩ (fun H locs hP hS => ?_)
  refine lv_if_eq (tgt := 10) hx hb dX6_tell_5 (by decide) (fun c_1 => ?_) (fun c_1 => ?_)
  · refine lv_aload_n hx hb dX6_tell_10 rfl (lv_at hl 0 rfl) ?_
    refine lv_iload_n hx hb dX6_tell_11 rfl (lv_at hl 1 rfl) ?_
    refine lv_iload_n hx hb dX6_tell_12 rfl (lv_at hl 2 rfl) ?_
    refine lv_iload_n hx hb dX6_tell_13 rfl (lv_at hl 1 rfl) ?_
    refine lv_iload_n hx hb dX6_tell_14 rfl (lv_at hl 2 rfl) ?_
    refine ks_p C (c_X6_commandCheck l D cI cZ x1 x2 ) (va_cwS 2 C.2.2.2.2.1 gX6_tell_X6_commandCheck rfl rfl rfl hdX6_commandCheck ⟨Nat.le_of_ble_eq_true rfl, Nat.le_of_ble_eq_true rfl⟩) hP hD hS rfl hl.1 rfl (Nat.le_of_ble_eq_true rfl) dX6_tell_15 ⟨Nat.zero_le _, Nat.zero_le _⟩ (fun H locs hP hS => ?_)
    refine kv_i C (c_X6_hears l D cI cZ ad u x1 x2 (f_X6_commandCheck x1 x2) ) (cwV 3 C.2.2.2.2.1 gX6_tell_X6_hears rfl rfl rfl hdX6_hears ⟨Nat.le_of_ble_eq_true rfl, Nat.le_of_ble_eq_true rfl⟩) (ci := 6) (q0 := 0) rfl rfl rfl hP hD hS (sp_self (fun u => (w_6 cI cZ ad u)) 15 (fun _ => rfl)) rfl hl.1 rfl (Nat.le_of_ble_eq_true rfl) dX6_tell_18 ⟨Nat.zero_le _, Nat.zero_le _⟩ (fun H locs hP hD hS => ?_)
    refine lv_if_eq (tgt := 33) hx hb dX6_tell_21 (by decide) (fun c_3 => ?_) (fun c_3 => ?_)
    · refine lv_bipush (v := (-4)) hx hb dX6_tell_33 (by decide) ?_
      exact rt_i C hr hlk hP hD hS ((if_pos c_1).trans ((if_pos c_3).trans rfl)) dX6_tell_35
    · refine lv_aload_n hx hb dX6_tell_24 rfl (lv_at hl 0 rfl) ?_
      refine lv_iload_n hx hb dX6_tell_25 rfl (lv_at hl 1 rfl) ?_
      refine lv_iload_n hx hb dX6_tell_26 rfl (lv_at hl 2 rfl) ?_
      refine kv_i C (c_X6_obey l D cI cZ ad (f_X6_hears u x1 x2 (f_X6_commandCheck x1 x2)).2 x1 x2 (ob_hears hA)) (cwV 2 C.2.2.2.2.1 gX6_tell_X6_obey rfl rfl rfl hdX6_obey ⟨Nat.le_of_ble_eq_true rfl, Nat.le_of_ble_eq_true rfl⟩) (ci := 6) (q0 := 0) rfl rfl rfl hP hD hS (sp_self (fun u => (w_6 cI cZ ad u)) 15 (fun _ => rfl)) rfl hl.1 rfl (Nat.le_of_ble_eq_true rfl) dX6_tell_27 ⟨Nat.zero_le _, Nat.zero_le _⟩ (fun H locs hP hD hS => ?_)
      refine lv_goto (tgt := 35) hx hb dX6_tell_30 (by decide) ?_
      exact rt_i C hr hlk hP hD hS ((if_pos c_1).trans ((if_neg c_3).trans rfl)) dX6_tell_35
  · refine lv_iconst (v := (-1)) hx hb dX6_tell_8 (by decide) ?_
    exact rt_i C hr hlk hP hD hS ((if_neg c_1).trans rfl) dX6_tell_9
theorem ln_X6_give_1 : Cond.constant RX6 64 (65535) ∈ wsX6_give := List.mem_of_getElem? (i := 1) rfl
theorem ln_X6_give_2 : Cond.fieldLink RX6 111 "BlockCard" "state" "I" ∈ wsX6_give := List.mem_of_getElem? (i := 2) rfl
theorem in_X6_give_6 : ∀ w ∈ wsX60, w ∈ wsX6_give := fun w h => List.mem_cons_of_mem _ (List.mem_append_left _ (List.mem_append_left _ (List.mem_append_left _ (List.mem_append_left _ (List.mem_append_right _ h)))))
theorem ln_X6_give_3 : Cond.fieldLink RX6 45 "BlockCard" "stream" "LBlockCard$Stream;" ∈ wsX6_give := List.mem_of_getElem? (i := 3) rfl
theorem ln_X6_give_4 : Cond.fieldLink RX6 10 "BlockCard" "memory" "LBlockCard$Memory;" ∈ wsX6_give := List.mem_of_getElem? (i := 4) rfl
theorem ln_X6_give_5 : Cond.fieldLink RX6 31 "BlockCard" "queue" "LBlockCard$Queue;" ∈ wsX6_give := List.mem_of_getElem? (i := 5) rfl
theorem ln_X6_give_6 : Cond.fieldLink RX6 52 "BlockCard" "link" "LBlockCard$Link;" ∈ wsX6_give := List.mem_of_getElem? (i := 6) rfl
theorem ln_X6_give_7 : Cond.fieldLink RX6 78 "BlockCard" "heat" "I" ∈ wsX6_give := List.mem_of_getElem? (i := 7) rfl
set_option maxHeartbeats 4000000 in
set_option maxRecDepth 100000 in
theorem c_X6_give (l : Launch) (D : va_G) (cI cZ : ClassId) (ad : Nat → Nat) (u : cd_S) (x1 : Int32) (x2 : Int32) (hz4 : (u 6).1 4 = 0 ∨ (u 6).1 4 = 1) : Ct_i l yX6_give wsX6_give ({ frames := 2, cells := 0, slots := 0, locals := 48 } : Room) D (ct_T cI cZ) [.ref (ad 0), .int x1, .int x2] (w_6 cI cZ ad u) (fun u => (w_6 cI cZ ad u)) (f_X6_give u x1 x2) := by
  refine en_i (cc := cX6_give) (maxL := 3) (ret := (some .int)) (own := RX6) (by decide +kernel) rfl rfl (Nat.le_of_ble_eq_true rfl) ?_
  intro p e s m args below meth c A ls C hr hlk hP hD hS hl
  have hx := C.1
  have hb := C.2.1
  have hl : lv_has ls 3 [(0, .ref (ad 0)), (1, .int x1), (2, .int x2)] := hl
  refine lv_iload_n hx hb dX6_give_0 rfl (lv_at hl 1 rfl) ?_
  refine lv_iconst (v := 0) hx hb dX6_give_1 (by decide) ?_
  refine lv_ldc (v := 65535) hx hb C.2.2.2.1 (C.2.2.2.2.1 _ ln_X6_give_1) dX6_give_2 ?_
  refine ks_p C (c_X6_isOutside l D cI cZ x1 0 65535 ) (va_cwS 3 C.2.2.2.2.1 gX6_give_X6_isOutside rfl rfl rfl hdX6_isOutside ⟨Nat.le_of_ble_eq_true rfl, Nat.le_of_ble_eq_true rfl⟩) hP hD hS rfl hl.1 rfl (Nat.le_of_ble_eq_true rfl) dX6_give_4 ⟨Nat.zero_le _, Nat.zero_le _⟩ (fun H locs hP hS => ?_)
  refine lv_if_ne (tgt := 20) hx hb dX6_give_7 (by decide) (fun c_1 => ?_) (fun c_1 => ?_)
  · refine lv_iconst (v := (-1)) hx hb dX6_give_20 (by decide) ?_
    exact rt_i C hr hlk hP hD hS ((if_neg c_1).trans rfl) dX6_give_21
  · refine lv_iload_n hx hb dX6_give_10 rfl (lv_at hl 2 rfl) ?_
    refine lv_iconst (v := 0) hx hb dX6_give_11 (by decide) ?_
    refine lv_bipush (v := 127) hx hb dX6_give_12 (by decide) ?_
    refine ks_p C (c_X6_isOutside l D cI cZ x2 0 127 ) (va_cwS 3 C.2.2.2.2.1 gX6_give_X6_isOutside rfl rfl rfl hdX6_isOutside ⟨Nat.le_of_ble_eq_true rfl, Nat.le_of_ble_eq_true rfl⟩) hP hD hS rfl hl.1 rfl (Nat.le_of_ble_eq_true rfl) dX6_give_14 ⟨Nat.zero_le _, Nat.zero_le _⟩ (fun H locs hP hS => ?_)
    refine lv_if_eq (tgt := 22) hx hb dX6_give_17 (by decide) (fun c_2 => ?_) (fun c_2 => ?_)
    · refine lv_aload_n hx hb dX6_give_22 rfl (lv_at hl 0 rfl) ?_
      refine gt6_12 C hP in_X6_give_6 ln_X6_give_2 (v := ((u 0).1 12)) rfl dX6_give_23 ?_
      refine lv_bipush (v := 6) hx hb dX6_give_26 (by decide) ?_
      refine lv_icmp_ne (tgt := 51) hx hb dX6_give_28 (by decide) (fun c_3 => ?_) (fun c_3 => ?_)
      · refine lv_bipush (v := (-2)) hx hb dX6_give_51 (by decide) ?_
        exact rt_i C hr hlk hP hD hS ((if_pos c_1).trans ((if_pos c_2).trans ((if_neg c_3).trans rfl))) dX6_give_53
      · refine lv_aload_n hx hb dX6_give_31 rfl (lv_at hl 0 rfl) ?_
        refine gt6_5 C hP in_X6_give_6 ln_X6_give_3 dX6_give_32 ?_
        refine kv_p C (c_X5_isWrong l D cI cZ (ad 13) (u 6)  hz4) (cwV 0 C.2.2.2.2.1 gX6_give_X5_isWrong rfl rfl rfl hdX5_isWrong ⟨Nat.le_of_ble_eq_true rfl, Nat.le_of_ble_eq_true rfl⟩) (ci := 5) (q0 := 0) rfl rfl rfl hP hD hS (su_6_6 cI cZ ad u) rfl hl.1 rfl (Nat.le_of_ble_eq_true rfl) dX6_give_35 ⟨Nat.zero_le _, Nat.zero_le _⟩ (fun H locs hP hS => ?_)
        refine lv_if_ne (tgt := 51) hx hb dX6_give_38 (by decide) (fun c_4 => ?_) (fun c_4 => ?_)
        · refine lv_bipush (v := (-2)) hx hb dX6_give_51 (by decide) ?_
          exact rt_i C hr hlk hP hD hS ((if_pos c_1).trans ((if_pos c_2).trans ((if_pos c_3).trans ((if_neg c_4).trans rfl)))) dX6_give_53
        · refine lv_aload_n hx hb dX6_give_41 rfl (lv_at hl 0 rfl) ?_
          refine gt6_5 C hP in_X6_give_6 ln_X6_give_3 dX6_give_42 ?_
          refine kv_p C (c_X5_isComplete l D cI cZ (ad 13) (u 6)  ) (cwV 0 C.2.2.2.2.1 gX6_give_X5_isComplete rfl rfl rfl hdX5_isComplete ⟨Nat.le_of_ble_eq_true rfl, Nat.le_of_ble_eq_true rfl⟩) (ci := 5) (q0 := 0) rfl rfl rfl hP hD hS (su_6_6 cI cZ ad u) rfl hl.1 rfl (Nat.le_of_ble_eq_true rfl) dX6_give_45 ⟨Nat.zero_le _, Nat.zero_le _⟩ (fun H locs hP hS => ?_)
          refine lv_if_eq (tgt := 54) hx hb dX6_give_48 (by decide) (fun c_5 => ?_) (fun c_5 => ?_)
          · refine lv_aload_n hx hb dX6_give_54 rfl (lv_at hl 0 rfl) ?_
            refine gt6_0 C hP in_X6_give_6 ln_X6_give_4 dX6_give_55 ?_
            refine lv_aload_n hx hb dX6_give_58 rfl (lv_at hl 0 rfl) ?_
            refine gt6_5 C hP in_X6_give_6 ln_X6_give_3 dX6_give_59 ?_
            refine kv_p C (c_X5_next l D cI cZ (ad 13) (u 6)  ) (cwV 0 C.2.2.2.2.1 gX6_give_X5_next rfl rfl rfl hdX5_next ⟨Nat.le_of_ble_eq_true rfl, Nat.le_of_ble_eq_true rfl⟩) (ci := 5) (q0 := 0) rfl rfl rfl hP hD hS (su_6_6 cI cZ ad u) rfl hl.1 rfl (Nat.le_of_ble_eq_true rfl) dX6_give_62 ⟨Nat.zero_le _, Nat.zero_le _⟩ (fun H locs hP hS => ?_)
            refine kv_p C (c_X3_has l D cI cZ (ad 1) (ad 2) (ad 3) (ad 4) (u 1) (f_X5_next (u 6)) ) (cwV 1 C.2.2.2.2.1 gX6_give_X3_has rfl rfl rfl hdX3_has ⟨Nat.le_of_ble_eq_true rfl, Nat.le_of_ble_eq_true rfl⟩) (ci := 3) (q0 := 0) rfl rfl rfl hP hD hS (su_6_1 cI cZ ad u) rfl hl.1 rfl (Nat.le_of_ble_eq_true rfl) dX6_give_65 ⟨Nat.zero_le _, Nat.zero_le _⟩ (fun H locs hP hS => ?_)
            refine lv_if_ne (tgt := 77) hx hb dX6_give_68 (by decide) (fun c_6 => ?_) (fun c_6 => ?_)
            · refine lv_aload_n hx hb dX6_give_77 rfl (lv_at hl 0 rfl) ?_
              refine gt6_3 C hP in_X6_give_6 ln_X6_give_5 dX6_give_78 ?_
              refine kv_p C (c_X4_isFull l D cI cZ (ad 9) (ad 10) (ad 11) (u 4)  ) (cwV 0 C.2.2.2.2.1 gX6_give_X4_isFull rfl rfl rfl hdX4_isFull ⟨Nat.le_of_ble_eq_true rfl, Nat.le_of_ble_eq_true rfl⟩) (ci := 4) (q0 := 0) rfl rfl rfl hP hD hS (su_6_4 cI cZ ad u) rfl hl.1 rfl (Nat.le_of_ble_eq_true rfl) dX6_give_81 ⟨Nat.zero_le _, Nat.zero_le _⟩ (fun H locs hP hS => ?_)
              refine lv_if_eq (tgt := 90) hx hb dX6_give_84 (by decide) (fun c_7 => ?_) (fun c_7 => ?_)
              · refine lv_aload_n hx hb dX6_give_90 rfl (lv_at hl 0 rfl) ?_
                refine gt6_6 C hP in_X6_give_6 ln_X6_give_6 dX6_give_91 ?_
                refine lv_aload_n hx hb dX6_give_94 rfl (lv_at hl 0 rfl) ?_
                refine gt6_11 C hP in_X6_give_6 ln_X6_give_7 (v := ((u 0).1 11)) rfl dX6_give_95 ?_
                refine kv_p C (c_X2_isInWindow l D cI cZ (ad 14) (u 7) ((u 0).1 11) ) (cwV 1 C.2.2.2.2.1 gX6_give_X2_isInWindow rfl rfl rfl hdX2_isInWindow ⟨Nat.le_of_ble_eq_true rfl, Nat.le_of_ble_eq_true rfl⟩) (ci := 2) (q0 := 0) rfl rfl rfl hP hD hS (su_6_7 cI cZ ad u) rfl hl.1 rfl (Nat.le_of_ble_eq_true rfl) dX6_give_98 ⟨Nat.zero_le _, Nat.zero_le _⟩ (fun H locs hP hS => ?_)
                refine lv_if_eq (tgt := 112) hx hb dX6_give_101 (by decide) (fun c_8 => ?_) (fun c_8 => ?_)
                · refine lv_aload_n hx hb dX6_give_112 rfl (lv_at hl 0 rfl) ?_
                  refine lv_bipush (v := 64) hx hb dX6_give_113 (by decide) ?_
                  refine kv_v C (c_X6_note l D cI cZ ad u 64 ) (cwV 1 C.2.2.2.2.1 gX6_give_X6_note rfl rfl rfl hdX6_note ⟨Nat.le_of_ble_eq_true rfl, Nat.le_of_ble_eq_true rfl⟩) (ci := 6) (q0 := 0) rfl rfl rfl hP hD hS (sp_self (fun u => (w_6 cI cZ ad u)) 15 (fun _ => rfl)) rfl hl.1 rfl (Nat.le_of_ble_eq_true rfl) dX6_give_115 ⟨Nat.zero_le _, Nat.zero_le _⟩ (fun H locs hP hD hS => ?_)
                  refine lv_aload_n hx hb dX6_give_118 rfl (lv_at hl 0 rfl) ?_
                  refine gt6_5 C hP in_X6_give_6 ln_X6_give_3 dX6_give_119 ?_
                  refine kv_v C (c_X5_spoil l D cI cZ (ad 13) ((f_X6_note u 64) 6)  ) (cwV 0 C.2.2.2.2.1 gX6_give_X5_spoil rfl rfl rfl hdX5_spoil ⟨Nat.le_of_ble_eq_true rfl, Nat.le_of_ble_eq_true rfl⟩) (ci := 5) (q0 := 0) rfl rfl rfl hP hD hS (sp_6_6 cI cZ ad (f_X6_note u 64)) rfl hl.1 rfl (Nat.le_of_ble_eq_true rfl) dX6_give_122 ⟨Nat.zero_le _, Nat.zero_le _⟩ (fun H locs hP hD hS => ?_)
                  refine lv_iconst (v := 0) hx hb dX6_give_125 (by decide) ?_
                  exact rt_i C hr hlk hP hD hS ((if_pos c_1).trans ((if_pos c_2).trans ((if_pos c_3).trans ((if_pos c_4).trans ((if_pos c_5).trans ((if_neg c_6).trans ((if_pos c_7).trans ((if_pos c_8).trans rfl)))))))) dX6_give_126
                · refine lv_iload_n hx hb dX6_give_104 rfl (lv_at hl 2 rfl) ?_
                  refine lv_iload_n hx hb dX6_give_105 rfl (lv_at hl 1 rfl) ?_
                  refine ks_p C (c_X6_contentCheck l D cI cZ x1 ) (va_cwS 1 C.2.2.2.2.1 gX6_give_X6_contentCheck rfl rfl rfl hdX6_contentCheck ⟨Nat.le_of_ble_eq_true rfl, Nat.le_of_ble_eq_true rfl⟩) hP hD hS rfl hl.1 rfl (Nat.le_of_ble_eq_true rfl) dX6_give_106 ⟨Nat.zero_le _, Nat.zero_le _⟩ (fun H locs hP hS => ?_)
                  refine lv_icmp_eq (tgt := 127) hx hb dX6_give_109 (by decide) (fun c_11 => ?_) (fun c_11 => ?_)
                  · refine lv_aload_n hx hb dX6_give_127 rfl (lv_at hl 0 rfl) ?_
                    refine gt6_3 C hP in_X6_give_6 ln_X6_give_5 dX6_give_128 ?_
                    refine lv_aload_n hx hb dX6_give_131 rfl (lv_at hl 0 rfl) ?_
                    refine gt6_5 C hP in_X6_give_6 ln_X6_give_3 dX6_give_132 ?_
                    refine kv_p C (c_X5_next l D cI cZ (ad 13) (u 6)  ) (cwV 0 C.2.2.2.2.1 gX6_give_X5_next rfl rfl rfl hdX5_next ⟨Nat.le_of_ble_eq_true rfl, Nat.le_of_ble_eq_true rfl⟩) (ci := 5) (q0 := 0) rfl rfl rfl hP hD hS (su_6_6 cI cZ ad u) rfl hl.1 rfl (Nat.le_of_ble_eq_true rfl) dX6_give_135 ⟨Nat.zero_le _, Nat.zero_le _⟩ (fun H locs hP hS => ?_)
                    refine lv_iload_n hx hb dX6_give_138 rfl (lv_at hl 1 rfl) ?_
                    refine kv_v C (c_X4_append l D cI cZ (ad 9) (ad 10) (ad 11) (u 4) (f_X5_next (u 6)) x1 ) (cwV 2 C.2.2.2.2.1 gX6_give_X4_append rfl rfl rfl hdX4_append ⟨Nat.le_of_ble_eq_true rfl, Nat.le_of_ble_eq_true rfl⟩) (ci := 4) (q0 := 0) rfl rfl rfl hP hD hS (sp_6_4 cI cZ ad u) rfl hl.1 rfl (Nat.le_of_ble_eq_true rfl) dX6_give_139 ⟨Nat.zero_le _, Nat.zero_le _⟩ (fun H locs hP hD hS => ?_)
                    refine lv_aload_n hx hb dX6_give_142 rfl (lv_at hl 0 rfl) ?_
                    refine gt6_5 C hP in_X6_give_6 ln_X6_give_3 dX6_give_143 ?_
                    refine kv_v C (c_X5_advance l D cI cZ (ad 13) (u 6)  ) (cwV 0 C.2.2.2.2.1 gX6_give_X5_advance rfl rfl rfl hdX5_advance ⟨Nat.le_of_ble_eq_true rfl, Nat.le_of_ble_eq_true rfl⟩) (ci := 5) (q0 := 0) rfl rfl rfl hP hD hS (sp_6_6 cI cZ ad (va_up u 4 (f_X4_append (u 4) (f_X5_next (u 6)) x1))) rfl hl.1 rfl (Nat.le_of_ble_eq_true rfl) dX6_give_146 ⟨Nat.zero_le _, Nat.zero_le _⟩ (fun H locs hP hD hS => ?_)
                    refine lv_aload_n hx hb dX6_give_149 rfl (lv_at hl 0 rfl) ?_
                    refine gt6_5 C hP in_X6_give_6 ln_X6_give_3 dX6_give_150 ?_
                    refine kv_p C (c_X5_isComplete l D cI cZ (ad 13) (f_X5_advance (u 6))  ) (cwV 0 C.2.2.2.2.1 gX6_give_X5_isComplete rfl rfl rfl hdX5_isComplete ⟨Nat.le_of_ble_eq_true rfl, Nat.le_of_ble_eq_true rfl⟩) (ci := 5) (q0 := 0) rfl rfl rfl hP hD hS (su_6_6 cI cZ ad (va_up (va_up u 4 (f_X4_append (u 4) (f_X5_next (u 6)) x1)) 6 (f_X5_advance (u 6)))) rfl hl.1 rfl (Nat.le_of_ble_eq_true rfl) dX6_give_153 ⟨Nat.zero_le _, Nat.zero_le _⟩ (fun H locs hP hS => ?_)
                    refine lv_if_eq (tgt := 165) hx hb dX6_give_156 (by decide) (fun c_14 => ?_) (fun c_14 => ?_)
                    · refine lv_iconst (v := 1) hx hb dX6_give_165 (by decide) ?_
                      exact rt_i C hr hlk hP hD hS ((if_pos c_1).trans ((if_pos c_2).trans ((if_pos c_3).trans ((if_pos c_4).trans ((if_pos c_5).trans ((if_neg c_6).trans ((if_pos c_7).trans ((if_neg c_8).trans ((if_pos c_11).trans ((if_pos c_14).trans rfl)))))))))) dX6_give_166
                    · refine lv_aload_n hx hb dX6_give_159 rfl (lv_at hl 0 rfl) ?_
                      refine lv_bipush (v := 7) hx hb dX6_give_160 (by decide) ?_
                      refine pt6_12 C hP hD hS in_X6_give_6 ln_X6_give_2 dX6_give_162 (fun H locs hP hD hS => ?_)
                      refine lv_iconst (v := 1) hx hb dX6_give_165 (by decide) ?_
                      exact rt_i C hr hlk hP hD hS ((if_pos c_1).trans ((if_pos c_2).trans ((if_pos c_3).trans ((if_pos c_4).trans ((if_pos c_5).trans ((if_neg c_6).trans ((if_pos c_7).trans ((if_neg c_8).trans ((if_pos c_11).trans ((if_neg c_14).trans rfl)))))))))) dX6_give_166
                  · refine lv_aload_n hx hb dX6_give_112 rfl (lv_at hl 0 rfl) ?_
                    refine lv_bipush (v := 64) hx hb dX6_give_113 (by decide) ?_
                    refine kv_v C (c_X6_note l D cI cZ ad u 64 ) (cwV 1 C.2.2.2.2.1 gX6_give_X6_note rfl rfl rfl hdX6_note ⟨Nat.le_of_ble_eq_true rfl, Nat.le_of_ble_eq_true rfl⟩) (ci := 6) (q0 := 0) rfl rfl rfl hP hD hS (sp_self (fun u => (w_6 cI cZ ad u)) 15 (fun _ => rfl)) rfl hl.1 rfl (Nat.le_of_ble_eq_true rfl) dX6_give_115 ⟨Nat.zero_le _, Nat.zero_le _⟩ (fun H locs hP hD hS => ?_)
                    refine lv_aload_n hx hb dX6_give_118 rfl (lv_at hl 0 rfl) ?_
                    refine gt6_5 C hP in_X6_give_6 ln_X6_give_3 dX6_give_119 ?_
                    refine kv_v C (c_X5_spoil l D cI cZ (ad 13) ((f_X6_note u 64) 6)  ) (cwV 0 C.2.2.2.2.1 gX6_give_X5_spoil rfl rfl rfl hdX5_spoil ⟨Nat.le_of_ble_eq_true rfl, Nat.le_of_ble_eq_true rfl⟩) (ci := 5) (q0 := 0) rfl rfl rfl hP hD hS (sp_6_6 cI cZ ad (f_X6_note u 64)) rfl hl.1 rfl (Nat.le_of_ble_eq_true rfl) dX6_give_122 ⟨Nat.zero_le _, Nat.zero_le _⟩ (fun H locs hP hD hS => ?_)
                    refine lv_iconst (v := 0) hx hb dX6_give_125 (by decide) ?_
                    exact rt_i C hr hlk hP hD hS ((if_pos c_1).trans ((if_pos c_2).trans ((if_pos c_3).trans ((if_pos c_4).trans ((if_pos c_5).trans ((if_neg c_6).trans ((if_pos c_7).trans ((if_neg c_8).trans ((if_neg c_11).trans rfl))))))))) dX6_give_126
              · refine lv_bipush (v := (-3)) hx hb dX6_give_87 (by decide) ?_
                exact rt_i C hr hlk hP hD hS ((if_pos c_1).trans ((if_pos c_2).trans ((if_pos c_3).trans ((if_pos c_4).trans ((if_pos c_5).trans ((if_neg c_6).trans ((if_neg c_7).trans rfl))))))) dX6_give_89
            · refine lv_aload_n hx hb dX6_give_71 rfl (lv_at hl 0 rfl) ?_
              refine lv_iconst (v := 4) hx hb dX6_give_72 (by decide) ?_
              refine kv_i C (c_X6_refuse l D cI cZ ad u 4 ) (cwV 1 C.2.2.2.2.1 gX6_give_X6_refuse rfl rfl rfl hdX6_refuse ⟨Nat.le_of_ble_eq_true rfl, Nat.le_of_ble_eq_true rfl⟩) (ci := 6) (q0 := 0) rfl rfl rfl hP hD hS (sp_self (fun u => (w_6 cI cZ ad u)) 15 (fun _ => rfl)) rfl hl.1 rfl (Nat.le_of_ble_eq_true rfl) dX6_give_73 ⟨Nat.zero_le _, Nat.zero_le _⟩ (fun H locs hP hD hS => ?_)
              exact rt_i C hr hlk hP hD hS ((if_pos c_1).trans ((if_pos c_2).trans ((if_pos c_3).trans ((if_pos c_4).trans ((if_pos c_5).trans ((if_pos c_6).trans rfl)))))) dX6_give_76
          · refine lv_bipush (v := (-2)) hx hb dX6_give_51 (by decide) ?_
            exact rt_i C hr hlk hP hD hS ((if_pos c_1).trans ((if_pos c_2).trans ((if_pos c_3).trans ((if_pos c_4).trans ((if_neg c_5).trans rfl))))) dX6_give_53
    · refine lv_iconst (v := (-1)) hx hb dX6_give_20 (by decide) ?_
      exact rt_i C hr hlk hP hD hS ((if_pos c_1).trans ((if_neg c_2).trans rfl)) dX6_give_21
theorem ln_X6_get_1 : Cond.fieldLink RX6 111 "BlockCard" "state" "I" ∈ wsX6_get := List.mem_of_getElem? (i := 1) rfl
theorem in_X6_get_6 : ∀ w ∈ wsX60, w ∈ wsX6_get := fun w h => List.mem_cons_of_mem _ (List.mem_append_left _ (List.mem_append_left _ (List.mem_append_left _ (List.mem_append_right _ h))))
theorem ln_X6_get_2 : Cond.fieldLink RX6 45 "BlockCard" "stream" "LBlockCard$Stream;" ∈ wsX6_get := List.mem_of_getElem? (i := 2) rfl
theorem ln_X6_get_3 : Cond.fieldLink RX6 52 "BlockCard" "link" "LBlockCard$Link;" ∈ wsX6_get := List.mem_of_getElem? (i := 3) rfl
theorem ln_X6_get_4 : Cond.fieldLink RX6 78 "BlockCard" "heat" "I" ∈ wsX6_get := List.mem_of_getElem? (i := 4) rfl
theorem ln_X6_get_5 : Cond.fieldLink RX6 10 "BlockCard" "memory" "LBlockCard$Memory;" ∈ wsX6_get := List.mem_of_getElem? (i := 5) rfl
set_option maxHeartbeats 4000000 in
set_option maxRecDepth 100000 in
theorem c_X6_get (l : Launch) (D : va_G) (cI cZ : ClassId) (ad : Nat → Nat) (u : cd_S) (hz : ((u 1).1 4).toInt ≤ 64) : Ct_i l yX6_get wsX6_get ({ frames := 2, cells := 0, slots := 0, locals := 48 } : Room) D (ct_T cI cZ) [.ref (ad 0)] (w_6 cI cZ ad u) (fun u => (w_6 cI cZ ad u)) (f_X6_get u) := by
  refine en_i (cc := cX6_get) (maxL := 2) (ret := (some .int)) (own := RX6) (by decide +kernel) rfl rfl (Nat.le_of_ble_eq_true rfl) ?_
  intro p e s m args below meth c A ls C hr hlk hP hD hS hl
  have hx := C.1
  have hb := C.2.1
  have hl : lv_has ls 2 [(0, .ref (ad 0))] := hl
  refine lv_aload_n hx hb dX6_get_0 rfl (lv_at hl 0 rfl) ?_
  refine gt6_12 C hP in_X6_get_6 ln_X6_get_1 (v := ((u 0).1 12)) rfl dX6_get_1 ?_
  refine lv_iconst (v := 5) hx hb dX6_get_4 (by decide) ?_
  refine lv_icmp_eq (tgt := 11) hx hb dX6_get_5 (by decide) (fun c_1 => ?_) (fun c_1 => ?_)
  · refine lv_aload_n hx hb dX6_get_11 rfl (lv_at hl 0 rfl) ?_
    refine gt6_5 C hP in_X6_get_6 ln_X6_get_2 dX6_get_12 ?_
    refine kv_p C (c_X5_next l D cI cZ (ad 13) (u 6)  ) (cwV 0 C.2.2.2.2.1 gX6_get_X5_next rfl rfl rfl hdX5_next ⟨Nat.le_of_ble_eq_true rfl, Nat.le_of_ble_eq_true rfl⟩) (ci := 5) (q0 := 0) rfl rfl rfl hP hD hS (su_6_6 cI cZ ad u) rfl hl.1 rfl (Nat.le_of_ble_eq_true rfl) dX6_get_15 ⟨Nat.zero_le _, Nat.zero_le _⟩ (fun H locs hP hS => ?_)
    refine lv_istore_n (lv' := [(1, .int _), (0, .ref _)]) hx hb dX6_get_18 rfl hl (by decide) rfl (fun ls hl => ?_)
    refine lv_aload_n hx hb dX6_get_19 rfl (lv_at hl 1 rfl) ?_
    refine gt6_6 C hP in_X6_get_6 ln_X6_get_3 dX6_get_20 ?_
    refine lv_aload_n hx hb dX6_get_23 rfl (lv_at hl 1 rfl) ?_
    refine gt6_11 C hP in_X6_get_6 ln_X6_get_4 (v := ((u 0).1 11)) rfl dX6_get_24 ?_
    refine kv_p C (c_X2_isInWindow l D cI cZ (ad 14) (u 7) ((u 0).1 11) ) (cwV 1 C.2.2.2.2.1 gX6_get_X2_isInWindow rfl rfl rfl hdX2_isInWindow ⟨Nat.le_of_ble_eq_true rfl, Nat.le_of_ble_eq_true rfl⟩) (ci := 2) (q0 := 0) rfl rfl rfl hP hD hS (su_6_7 cI cZ ad u) rfl hl.1 rfl (Nat.le_of_ble_eq_true rfl) dX6_get_27 ⟨Nat.zero_le _, Nat.zero_le _⟩ (fun H locs hP hS => ?_)
    refine lv_if_eq (tgt := 44) hx hb dX6_get_30 (by decide) (fun c_2 => ?_) (fun c_2 => ?_)
    · refine lv_bipush (v := (-4)) hx hb dX6_get_44 (by decide) ?_
      exact rt_i C hr hlk hP hD hS ((if_pos c_1).trans ((if_pos c_2).trans rfl)) dX6_get_46
    · refine lv_aload_n hx hb dX6_get_33 rfl (lv_at hl 1 rfl) ?_
      refine gt6_0 C hP in_X6_get_6 ln_X6_get_5 dX6_get_34 ?_
      refine lv_iload_n hx hb dX6_get_37 rfl (lv_at hl 0 rfl) ?_
      refine kv_p C (c_X3_isTorn l D cI cZ (ad 1) (ad 2) (ad 3) (ad 4) (u 1) (f_X5_next (u 6)) hz) (cwV 1 C.2.2.2.2.1 gX6_get_X3_isTorn rfl rfl rfl hdX3_isTorn ⟨Nat.le_of_ble_eq_true rfl, Nat.le_of_ble_eq_true rfl⟩) (ci := 3) (q0 := 0) rfl rfl rfl hP hD hS (su_6_1 cI cZ ad u) rfl hl.1 rfl (Nat.le_of_ble_eq_true rfl) dX6_get_38 ⟨Nat.zero_le _, Nat.zero_le _⟩ (fun H locs hP hS => ?_)
      refine lv_if_eq (tgt := 47) hx hb dX6_get_41 (by decide) (fun c_3 => ?_) (fun c_3 => ?_)
      · refine lv_aload_n hx hb dX6_get_47 rfl (lv_at hl 1 rfl) ?_
        refine gt6_5 C hP in_X6_get_6 ln_X6_get_2 dX6_get_48 ?_
        refine kv_v C (c_X5_advance l D cI cZ (ad 13) (u 6)  ) (cwV 0 C.2.2.2.2.1 gX6_get_X5_advance rfl rfl rfl hdX5_advance ⟨Nat.le_of_ble_eq_true rfl, Nat.le_of_ble_eq_true rfl⟩) (ci := 5) (q0 := 0) rfl rfl rfl hP hD hS (sp_6_6 cI cZ ad u) rfl hl.1 rfl (Nat.le_of_ble_eq_true rfl) dX6_get_51 ⟨Nat.zero_le _, Nat.zero_le _⟩ (fun H locs hP hD hS => ?_)
        refine lv_aload_n hx hb dX6_get_54 rfl (lv_at hl 1 rfl) ?_
        refine gt6_5 C hP in_X6_get_6 ln_X6_get_2 dX6_get_55 ?_
        refine kv_p C (c_X5_isComplete l D cI cZ (ad 13) (f_X5_advance (u 6))  ) (cwV 0 C.2.2.2.2.1 gX6_get_X5_isComplete rfl rfl rfl hdX5_isComplete ⟨Nat.le_of_ble_eq_true rfl, Nat.le_of_ble_eq_true rfl⟩) (ci := 5) (q0 := 0) rfl rfl rfl hP hD hS (su_6_6 cI cZ ad (va_up u 6 (f_X5_advance (u 6)))) rfl hl.1 rfl (Nat.le_of_ble_eq_true rfl) dX6_get_58 ⟨Nat.zero_le _, Nat.zero_le _⟩ (fun H locs hP hS => ?_)
        refine lv_if_ne (tgt := 81) hx hb dX6_get_61 (by decide) (fun c_5 => ?_) (fun c_5 => ?_)
        · refine lv_aload_n hx hb dX6_get_81 rfl (lv_at hl 1 rfl) ?_
          refine lv_iconst (v := 4) hx hb dX6_get_82 (by decide) ?_
          refine pt6_12 C hP hD hS in_X6_get_6 ln_X6_get_1 dX6_get_83 (fun H locs hP hD hS => ?_)
          refine lv_aload_n hx hb dX6_get_86 rfl (lv_at hl 1 rfl) ?_
          refine gt6_0 C hP in_X6_get_6 ln_X6_get_5 dX6_get_87 ?_
          refine lv_iload_n hx hb dX6_get_90 rfl (lv_at hl 0 rfl) ?_
          refine kv_p C (c_X3_contentOf l D cI cZ (ad 1) (ad 2) (ad 3) (ad 4) (u 1) (f_X5_next (u 6)) hz) (cwV 1 C.2.2.2.2.1 gX6_get_X3_contentOf rfl rfl rfl hdX3_contentOf ⟨Nat.le_of_ble_eq_true rfl, Nat.le_of_ble_eq_true rfl⟩) (ci := 3) (q0 := 0) rfl rfl rfl hP hD hS (su_6_1 cI cZ ad (cd_i (va_up u 6 (f_X5_advance (u 6))) 12 4)) rfl hl.1 rfl (Nat.le_of_ble_eq_true rfl) dX6_get_91 ⟨Nat.zero_le _, Nat.zero_le _⟩ (fun H locs hP hS => ?_)
          exact rt_i C hr hlk hP hD hS ((if_pos c_1).trans ((if_neg c_2).trans ((if_pos c_3).trans ((if_neg c_5).trans rfl)))) dX6_get_94
        · refine lv_aload_n hx hb dX6_get_64 rfl (lv_at hl 1 rfl) ?_
          refine gt6_0 C hP in_X6_get_6 ln_X6_get_5 dX6_get_65 ?_
          refine lv_aload_n hx hb dX6_get_68 rfl (lv_at hl 1 rfl) ?_
          refine gt6_5 C hP in_X6_get_6 ln_X6_get_2 dX6_get_69 ?_
          refine kv_p C (c_X5_next l D cI cZ (ad 13) (f_X5_advance (u 6))  ) (cwV 0 C.2.2.2.2.1 gX6_get_X5_next rfl rfl rfl hdX5_next ⟨Nat.le_of_ble_eq_true rfl, Nat.le_of_ble_eq_true rfl⟩) (ci := 5) (q0 := 0) rfl rfl rfl hP hD hS (su_6_6 cI cZ ad (va_up u 6 (f_X5_advance (u 6)))) rfl hl.1 rfl (Nat.le_of_ble_eq_true rfl) dX6_get_72 ⟨Nat.zero_le _, Nat.zero_le _⟩ (fun H locs hP hS => ?_)
          refine kv_p C (c_X3_has l D cI cZ (ad 1) (ad 2) (ad 3) (ad 4) (u 1) (f_X5_next (f_X5_advance (u 6))) ) (cwV 1 C.2.2.2.2.1 gX6_get_X3_has rfl rfl rfl hdX3_has ⟨Nat.le_of_ble_eq_true rfl, Nat.le_of_ble_eq_true rfl⟩) (ci := 3) (q0 := 0) rfl rfl rfl hP hD hS (su_6_1 cI cZ ad (va_up u 6 (f_X5_advance (u 6)))) rfl hl.1 rfl (Nat.le_of_ble_eq_true rfl) dX6_get_75 ⟨Nat.zero_le _, Nat.zero_le _⟩ (fun H locs hP hS => ?_)
          refine lv_if_ne (tgt := 86) hx hb dX6_get_78 (by decide) (fun c_6 => ?_) (fun c_6 => ?_)
          · refine lv_aload_n hx hb dX6_get_86 rfl (lv_at hl 1 rfl) ?_
            refine gt6_0 C hP in_X6_get_6 ln_X6_get_5 dX6_get_87 ?_
            refine lv_iload_n hx hb dX6_get_90 rfl (lv_at hl 0 rfl) ?_
            refine kv_p C (c_X3_contentOf l D cI cZ (ad 1) (ad 2) (ad 3) (ad 4) (u 1) (f_X5_next (u 6)) hz) (cwV 1 C.2.2.2.2.1 gX6_get_X3_contentOf rfl rfl rfl hdX3_contentOf ⟨Nat.le_of_ble_eq_true rfl, Nat.le_of_ble_eq_true rfl⟩) (ci := 3) (q0 := 0) rfl rfl rfl hP hD hS (su_6_1 cI cZ ad (va_up u 6 (f_X5_advance (u 6)))) rfl hl.1 rfl (Nat.le_of_ble_eq_true rfl) dX6_get_91 ⟨Nat.zero_le _, Nat.zero_le _⟩ (fun H locs hP hS => ?_)
            exact rt_i C hr hlk hP hD hS ((if_pos c_1).trans ((if_neg c_2).trans ((if_pos c_3).trans ((if_pos c_5).trans ((if_neg c_6).trans rfl))))) dX6_get_94
          · refine lv_aload_n hx hb dX6_get_81 rfl (lv_at hl 1 rfl) ?_
            refine lv_iconst (v := 4) hx hb dX6_get_82 (by decide) ?_
            refine pt6_12 C hP hD hS in_X6_get_6 ln_X6_get_1 dX6_get_83 (fun H locs hP hD hS => ?_)
            refine lv_aload_n hx hb dX6_get_86 rfl (lv_at hl 1 rfl) ?_
            refine gt6_0 C hP in_X6_get_6 ln_X6_get_5 dX6_get_87 ?_
            refine lv_iload_n hx hb dX6_get_90 rfl (lv_at hl 0 rfl) ?_
            refine kv_p C (c_X3_contentOf l D cI cZ (ad 1) (ad 2) (ad 3) (ad 4) (u 1) (f_X5_next (u 6)) hz) (cwV 1 C.2.2.2.2.1 gX6_get_X3_contentOf rfl rfl rfl hdX3_contentOf ⟨Nat.le_of_ble_eq_true rfl, Nat.le_of_ble_eq_true rfl⟩) (ci := 3) (q0 := 0) rfl rfl rfl hP hD hS (su_6_1 cI cZ ad (cd_i (va_up u 6 (f_X5_advance (u 6))) 12 4)) rfl hl.1 rfl (Nat.le_of_ble_eq_true rfl) dX6_get_91 ⟨Nat.zero_le _, Nat.zero_le _⟩ (fun H locs hP hS => ?_)
            exact rt_i C hr hlk hP hD hS ((if_pos c_1).trans ((if_neg c_2).trans ((if_pos c_3).trans ((if_pos c_5).trans ((if_pos c_6).trans rfl))))) dX6_get_94
      · refine lv_bipush (v := (-4)) hx hb dX6_get_44 (by decide) ?_
        exact rt_i C hr hlk hP hD hS ((if_pos c_1).trans ((if_neg c_2).trans ((if_neg c_3).trans rfl))) dX6_get_46
  · refine lv_bipush (v := (-2)) hx hb dX6_get_8 (by decide) ?_
    exact rt_i C hr hlk hP hD hS ((if_neg c_1).trans rfl) dX6_get_10
theorem ln_X6_work_1 : Cond.fieldLink RX6 111 "BlockCard" "state" "I" ∈ wsX6_work := List.mem_of_getElem? (i := 1) rfl
theorem in_X6_work_6 : ∀ w ∈ wsX60, w ∈ wsX6_work := fun w h => List.mem_cons_of_mem _ (List.mem_append_left _ (List.mem_append_left _ (List.mem_append_left _ (List.mem_append_left _ (List.mem_append_right _ h)))))
theorem ln_X6_work_2 : Cond.fieldLink RX6 31 "BlockCard" "queue" "LBlockCard$Queue;" ∈ wsX6_work := List.mem_of_getElem? (i := 2) rfl
theorem ln_X6_work_3 : Cond.fieldLink RX6 38 "BlockCard" "eraser" "LBlockCard$Eraser;" ∈ wsX6_work := List.mem_of_getElem? (i := 3) rfl
set_option maxHeartbeats 4000000 in
set_option maxRecDepth 100000 in
theorem c_X6_work (l : Launch) (D : va_G) (cI cZ : ClassId) (ad : Nat → Nat) (u : cd_S) (hz : ((u 1).1 4).toInt ≤ 64) : Ct_v l yX6_work wsX6_work ({ frames := 4, cells := 0, slots := 0, locals := 91 } : Room) D (ct_T cI cZ) [.ref (ad 0)] (w_6 cI cZ ad u) (fun u => (w_6 cI cZ ad u)) (f_X6_work u) := by
  refine en_v (cc := cX6_work) (maxL := 1) (ret := none) (own := RX6) (by decide +kernel) rfl rfl (Nat.le_of_ble_eq_true rfl) ?_
  intro p e s m args below meth c A ls C hr hlk hP hD hS hl
  have hx := C.1
  have hb := C.2.1
  have hl : lv_has ls 1 [(0, .ref (ad 0))] := hl
  refine lv_aload_n hx hb dX6_work_0 rfl (lv_at hl 0 rfl) ?_
  refine gt6_12 C hP in_X6_work_6 ln_X6_work_1 (v := ((u 0).1 12)) rfl dX6_work_1 ?_
  refine lv_bipush (v := 6) hx hb dX6_work_4 (by decide) ?_
  refine lv_icmp_eq (tgt := 19) hx hb dX6_work_6 (by decide) (fun c_1 => ?_) (fun c_1 => ?_)
  · refine lv_aload_n hx hb dX6_work_19 rfl (lv_at hl 0 rfl) ?_
    refine gt6_3 C hP in_X6_work_6 ln_X6_work_2 dX6_work_20 ?_
    refine kv_p C (c_X4_size l D cI cZ (ad 9) (ad 10) (ad 11) (u 4)  ) (cwV 0 C.2.2.2.2.1 gX6_work_X4_size rfl rfl rfl hdX4_size ⟨Nat.le_of_ble_eq_true rfl, Nat.le_of_ble_eq_true rfl⟩) (ci := 4) (q0 := 0) rfl rfl rfl hP hD hS (su_6_4 cI cZ ad u) rfl hl.1 rfl (Nat.le_of_ble_eq_true rfl) dX6_work_23 ⟨Nat.zero_le _, Nat.zero_le _⟩ (fun H locs hP hS => ?_)
    refine lv_if_le (tgt := 36) hx hb dX6_work_26 (by decide) (fun c_2 => ?_) (fun c_2 => ?_)
    · refine lv_aload_n hx hb dX6_work_36 rfl (lv_at hl 0 rfl) ?_
      refine gt6_4 C hP in_X6_work_6 ln_X6_work_3 dX6_work_37 ?_
      refine kv_p C (c_X0_groupsLeft l D cI cZ (ad 12) (u 5)  ) (cwV 0 C.2.2.2.2.1 gX6_work_X0_groupsLeft rfl rfl rfl hdX0_groupsLeft ⟨Nat.le_of_ble_eq_true rfl, Nat.le_of_ble_eq_true rfl⟩) (ci := 0) (q0 := 0) rfl rfl rfl hP hD hS (su_6_5 cI cZ ad u) rfl hl.1 rfl (Nat.le_of_ble_eq_true rfl) dX6_work_40 ⟨Nat.zero_le _, Nat.zero_le _⟩ (fun H locs hP hS => ?_)
      refine lv_if_le (tgt := 50) hx hb dX6_work_43 (by decide) (fun c_3 => ?_) (fun c_3 => ?_)
      · refine lv_aload_n hx hb dX6_work_50 rfl (lv_at hl 0 rfl) ?_
        refine gt6_12 C hP in_X6_work_6 ln_X6_work_1 (v := ((u 0).1 12)) rfl dX6_work_51 ?_
        refine lv_bipush (v := 7) hx hb dX6_work_54 (by decide) ?_
        refine lv_icmp_ne (tgt := 84) hx hb dX6_work_56 (by decide) (fun c_4 => ?_) (fun c_4 => ?_)
        · exact rt_v C hr hlk hP hD hS ((if_pos c_1).trans ((if_pos c_2).trans ((if_pos c_3).trans ((if_neg c_4).trans rfl)))) dX6_work_84
        · refine lv_aload_n hx hb dX6_work_59 rfl (lv_at hl 0 rfl) ?_
          refine gt6_3 C hP in_X6_work_6 ln_X6_work_2 dX6_work_60 ?_
          refine kv_p C (c_X4_size l D cI cZ (ad 9) (ad 10) (ad 11) (u 4)  ) (cwV 0 C.2.2.2.2.1 gX6_work_X4_size rfl rfl rfl hdX4_size ⟨Nat.le_of_ble_eq_true rfl, Nat.le_of_ble_eq_true rfl⟩) (ci := 4) (q0 := 0) rfl rfl rfl hP hD hS (su_6_4 cI cZ ad u) rfl hl.1 rfl (Nat.le_of_ble_eq_true rfl) dX6_work_63 ⟨Nat.zero_le _, Nat.zero_le _⟩ (fun H locs hP hS => ?_)
          refine lv_if_ne (tgt := 84) hx hb dX6_work_66 (by decide) (fun c_5 => ?_) (fun c_5 => ?_)
          · exact rt_v C hr hlk hP hD hS ((if_pos c_1).trans ((if_pos c_2).trans ((if_pos c_3).trans ((if_pos c_4).trans ((if_neg c_5).trans rfl))))) dX6_work_84
          · refine lv_aload_n hx hb dX6_work_69 rfl (lv_at hl 0 rfl) ?_
            refine gt6_4 C hP in_X6_work_6 ln_X6_work_3 dX6_work_70 ?_
            refine kv_p C (c_X0_groupsLeft l D cI cZ (ad 12) (u 5)  ) (cwV 0 C.2.2.2.2.1 gX6_work_X0_groupsLeft rfl rfl rfl hdX0_groupsLeft ⟨Nat.le_of_ble_eq_true rfl, Nat.le_of_ble_eq_true rfl⟩) (ci := 0) (q0 := 0) rfl rfl rfl hP hD hS (su_6_5 cI cZ ad u) rfl hl.1 rfl (Nat.le_of_ble_eq_true rfl) dX6_work_73 ⟨Nat.zero_le _, Nat.zero_le _⟩ (fun H locs hP hS => ?_)
            refine lv_if_ne (tgt := 84) hx hb dX6_work_76 (by decide) (fun c_6 => ?_) (fun c_6 => ?_)
            · exact rt_v C hr hlk hP hD hS ((if_pos c_1).trans ((if_pos c_2).trans ((if_pos c_3).trans ((if_pos c_4).trans ((if_pos c_5).trans ((if_neg c_6).trans rfl)))))) dX6_work_84
            · refine lv_aload_n hx hb dX6_work_79 rfl (lv_at hl 0 rfl) ?_
              refine lv_iconst (v := 4) hx hb dX6_work_80 (by decide) ?_
              refine pt6_12 C hP hD hS in_X6_work_6 ln_X6_work_1 dX6_work_81 (fun H locs hP hD hS => ?_)
              exact rt_v C hr hlk hP hD hS ((if_pos c_1).trans ((if_pos c_2).trans ((if_pos c_3).trans ((if_pos c_4).trans ((if_pos c_5).trans ((if_pos c_6).trans rfl)))))) dX6_work_84
      · refine lv_aload_n hx hb dX6_work_46 rfl (lv_at hl 0 rfl) ?_
        refine kv_v C (c_X6_eraseFurther l D cI cZ ad u  hz) (cwV 0 C.2.2.2.2.1 gX6_work_X6_eraseFurther rfl rfl rfl hdX6_eraseFurther ⟨Nat.le_of_ble_eq_true rfl, Nat.le_of_ble_eq_true rfl⟩) (ci := 6) (q0 := 0) rfl rfl rfl hP hD hS (sp_self (fun u => (w_6 cI cZ ad u)) 15 (fun _ => rfl)) rfl hl.1 rfl (Nat.le_of_ble_eq_true rfl) dX6_work_47 ⟨Nat.zero_le _, Nat.zero_le _⟩ (fun H locs hP hD hS => ?_)
        refine lv_aload_n hx hb dX6_work_50 rfl (lv_at hl 0 rfl) ?_
        refine gt6_12 C hP in_X6_work_6 ln_X6_work_1 (v := (((f_X6_eraseFurther u) 0).1 12)) rfl dX6_work_51 ?_
        refine lv_bipush (v := 7) hx hb dX6_work_54 (by decide) ?_
        refine lv_icmp_ne (tgt := 84) hx hb dX6_work_56 (by decide) (fun c_8 => ?_) (fun c_8 => ?_)
        · exact rt_v C hr hlk hP hD hS ((if_pos c_1).trans ((if_pos c_2).trans ((if_neg c_3).trans ((if_neg c_8).trans rfl)))) dX6_work_84
        · refine lv_aload_n hx hb dX6_work_59 rfl (lv_at hl 0 rfl) ?_
          refine gt6_3 C hP in_X6_work_6 ln_X6_work_2 dX6_work_60 ?_
          refine kv_p C (c_X4_size l D cI cZ (ad 9) (ad 10) (ad 11) ((f_X6_eraseFurther u) 4)  ) (cwV 0 C.2.2.2.2.1 gX6_work_X4_size rfl rfl rfl hdX4_size ⟨Nat.le_of_ble_eq_true rfl, Nat.le_of_ble_eq_true rfl⟩) (ci := 4) (q0 := 0) rfl rfl rfl hP hD hS (su_6_4 cI cZ ad (f_X6_eraseFurther u)) rfl hl.1 rfl (Nat.le_of_ble_eq_true rfl) dX6_work_63 ⟨Nat.zero_le _, Nat.zero_le _⟩ (fun H locs hP hS => ?_)
          refine lv_if_ne (tgt := 84) hx hb dX6_work_66 (by decide) (fun c_9 => ?_) (fun c_9 => ?_)
          · exact rt_v C hr hlk hP hD hS ((if_pos c_1).trans ((if_pos c_2).trans ((if_neg c_3).trans ((if_pos c_8).trans ((if_neg c_9).trans rfl))))) dX6_work_84
          · refine lv_aload_n hx hb dX6_work_69 rfl (lv_at hl 0 rfl) ?_
            refine gt6_4 C hP in_X6_work_6 ln_X6_work_3 dX6_work_70 ?_
            refine kv_p C (c_X0_groupsLeft l D cI cZ (ad 12) ((f_X6_eraseFurther u) 5)  ) (cwV 0 C.2.2.2.2.1 gX6_work_X0_groupsLeft rfl rfl rfl hdX0_groupsLeft ⟨Nat.le_of_ble_eq_true rfl, Nat.le_of_ble_eq_true rfl⟩) (ci := 0) (q0 := 0) rfl rfl rfl hP hD hS (su_6_5 cI cZ ad (f_X6_eraseFurther u)) rfl hl.1 rfl (Nat.le_of_ble_eq_true rfl) dX6_work_73 ⟨Nat.zero_le _, Nat.zero_le _⟩ (fun H locs hP hS => ?_)
            refine lv_if_ne (tgt := 84) hx hb dX6_work_76 (by decide) (fun c_10 => ?_) (fun c_10 => ?_)
            · exact rt_v C hr hlk hP hD hS ((if_pos c_1).trans ((if_pos c_2).trans ((if_neg c_3).trans ((if_pos c_8).trans ((if_pos c_9).trans ((if_neg c_10).trans rfl)))))) dX6_work_84
            · refine lv_aload_n hx hb dX6_work_79 rfl (lv_at hl 0 rfl) ?_
              refine lv_iconst (v := 4) hx hb dX6_work_80 (by decide) ?_
              refine pt6_12 C hP hD hS in_X6_work_6 ln_X6_work_1 dX6_work_81 (fun H locs hP hD hS => ?_)
              exact rt_v C hr hlk hP hD hS ((if_pos c_1).trans ((if_pos c_2).trans ((if_neg c_3).trans ((if_pos c_8).trans ((if_pos c_9).trans ((if_pos c_10).trans rfl)))))) dX6_work_84
    · refine lv_aload_n hx hb dX6_work_29 rfl (lv_at hl 0 rfl) ?_
      refine kv_v C (c_X6_writeFurther l D cI cZ ad u  hz) (cwV 0 C.2.2.2.2.1 gX6_work_X6_writeFurther rfl rfl rfl hdX6_writeFurther ⟨Nat.le_of_ble_eq_true rfl, Nat.le_of_ble_eq_true rfl⟩) (ci := 6) (q0 := 0) rfl rfl rfl hP hD hS (sp_self (fun u => (w_6 cI cZ ad u)) 15 (fun _ => rfl)) rfl hl.1 rfl (Nat.le_of_ble_eq_true rfl) dX6_work_30 ⟨Nat.zero_le _, Nat.zero_le _⟩ (fun H locs hP hD hS => ?_)
      refine lv_goto (tgt := 50) hx hb dX6_work_33 (by decide) ?_
      refine lv_aload_n hx hb dX6_work_50 rfl (lv_at hl 0 rfl) ?_
      refine gt6_12 C hP in_X6_work_6 ln_X6_work_1 (v := (((f_X6_writeFurther u) 0).1 12)) rfl dX6_work_51 ?_
      refine lv_bipush (v := 7) hx hb dX6_work_54 (by decide) ?_
      refine lv_icmp_ne (tgt := 84) hx hb dX6_work_56 (by decide) (fun c_12 => ?_) (fun c_12 => ?_)
      · exact rt_v C hr hlk hP hD hS ((if_pos c_1).trans ((if_neg c_2).trans ((if_neg c_12).trans rfl))) dX6_work_84
      · refine lv_aload_n hx hb dX6_work_59 rfl (lv_at hl 0 rfl) ?_
        refine gt6_3 C hP in_X6_work_6 ln_X6_work_2 dX6_work_60 ?_
        refine kv_p C (c_X4_size l D cI cZ (ad 9) (ad 10) (ad 11) ((f_X6_writeFurther u) 4)  ) (cwV 0 C.2.2.2.2.1 gX6_work_X4_size rfl rfl rfl hdX4_size ⟨Nat.le_of_ble_eq_true rfl, Nat.le_of_ble_eq_true rfl⟩) (ci := 4) (q0 := 0) rfl rfl rfl hP hD hS (su_6_4 cI cZ ad (f_X6_writeFurther u)) rfl hl.1 rfl (Nat.le_of_ble_eq_true rfl) dX6_work_63 ⟨Nat.zero_le _, Nat.zero_le _⟩ (fun H locs hP hS => ?_)
        refine lv_if_ne (tgt := 84) hx hb dX6_work_66 (by decide) (fun c_13 => ?_) (fun c_13 => ?_)
        · exact rt_v C hr hlk hP hD hS ((if_pos c_1).trans ((if_neg c_2).trans ((if_pos c_12).trans ((if_neg c_13).trans rfl)))) dX6_work_84
        · refine lv_aload_n hx hb dX6_work_69 rfl (lv_at hl 0 rfl) ?_
          refine gt6_4 C hP in_X6_work_6 ln_X6_work_3 dX6_work_70 ?_
          refine kv_p C (c_X0_groupsLeft l D cI cZ (ad 12) ((f_X6_writeFurther u) 5)  ) (cwV 0 C.2.2.2.2.1 gX6_work_X0_groupsLeft rfl rfl rfl hdX0_groupsLeft ⟨Nat.le_of_ble_eq_true rfl, Nat.le_of_ble_eq_true rfl⟩) (ci := 0) (q0 := 0) rfl rfl rfl hP hD hS (su_6_5 cI cZ ad (f_X6_writeFurther u)) rfl hl.1 rfl (Nat.le_of_ble_eq_true rfl) dX6_work_73 ⟨Nat.zero_le _, Nat.zero_le _⟩ (fun H locs hP hS => ?_)
          refine lv_if_ne (tgt := 84) hx hb dX6_work_76 (by decide) (fun c_14 => ?_) (fun c_14 => ?_)
          · exact rt_v C hr hlk hP hD hS ((if_pos c_1).trans ((if_neg c_2).trans ((if_pos c_12).trans ((if_pos c_13).trans ((if_neg c_14).trans rfl))))) dX6_work_84
          · refine lv_aload_n hx hb dX6_work_79 rfl (lv_at hl 0 rfl) ?_
            refine lv_iconst (v := 4) hx hb dX6_work_80 (by decide) ?_
            refine pt6_12 C hP hD hS in_X6_work_6 ln_X6_work_1 dX6_work_81 (fun H locs hP hD hS => ?_)
            exact rt_v C hr hlk hP hD hS ((if_pos c_1).trans ((if_neg c_2).trans ((if_pos c_12).trans ((if_pos c_13).trans ((if_pos c_14).trans rfl))))) dX6_work_84
  · refine lv_aload_n hx hb dX6_work_9 rfl (lv_at hl 0 rfl) ?_
    refine gt6_12 C hP in_X6_work_6 ln_X6_work_1 (v := ((u 0).1 12)) rfl dX6_work_10 ?_
    refine lv_bipush (v := 7) hx hb dX6_work_13 (by decide) ?_
    refine lv_icmp_eq (tgt := 19) hx hb dX6_work_15 (by decide) (fun c_15 => ?_) (fun c_15 => ?_)
    · refine lv_aload_n hx hb dX6_work_19 rfl (lv_at hl 0 rfl) ?_
      refine gt6_3 C hP in_X6_work_6 ln_X6_work_2 dX6_work_20 ?_
      refine kv_p C (c_X4_size l D cI cZ (ad 9) (ad 10) (ad 11) (u 4)  ) (cwV 0 C.2.2.2.2.1 gX6_work_X4_size rfl rfl rfl hdX4_size ⟨Nat.le_of_ble_eq_true rfl, Nat.le_of_ble_eq_true rfl⟩) (ci := 4) (q0 := 0) rfl rfl rfl hP hD hS (su_6_4 cI cZ ad u) rfl hl.1 rfl (Nat.le_of_ble_eq_true rfl) dX6_work_23 ⟨Nat.zero_le _, Nat.zero_le _⟩ (fun H locs hP hS => ?_)
      refine lv_if_le (tgt := 36) hx hb dX6_work_26 (by decide) (fun c_16 => ?_) (fun c_16 => ?_)
      · refine lv_aload_n hx hb dX6_work_36 rfl (lv_at hl 0 rfl) ?_
        refine gt6_4 C hP in_X6_work_6 ln_X6_work_3 dX6_work_37 ?_
        refine kv_p C (c_X0_groupsLeft l D cI cZ (ad 12) (u 5)  ) (cwV 0 C.2.2.2.2.1 gX6_work_X0_groupsLeft rfl rfl rfl hdX0_groupsLeft ⟨Nat.le_of_ble_eq_true rfl, Nat.le_of_ble_eq_true rfl⟩) (ci := 0) (q0 := 0) rfl rfl rfl hP hD hS (su_6_5 cI cZ ad u) rfl hl.1 rfl (Nat.le_of_ble_eq_true rfl) dX6_work_40 ⟨Nat.zero_le _, Nat.zero_le _⟩ (fun H locs hP hS => ?_)
        refine lv_if_le (tgt := 50) hx hb dX6_work_43 (by decide) (fun c_17 => ?_) (fun c_17 => ?_)
        · refine lv_aload_n hx hb dX6_work_50 rfl (lv_at hl 0 rfl) ?_
          refine gt6_12 C hP in_X6_work_6 ln_X6_work_1 (v := ((u 0).1 12)) rfl dX6_work_51 ?_
          refine lv_bipush (v := 7) hx hb dX6_work_54 (by decide) ?_
          refine lv_icmp_ne (tgt := 84) hx hb dX6_work_56 (by decide) (fun c_18 => ?_) (fun c_18 => ?_)
          · exact rt_v C hr hlk hP hD hS ((if_neg c_1).trans ((if_pos c_15).trans ((if_pos c_16).trans ((if_pos c_17).trans ((if_neg c_18).trans rfl))))) dX6_work_84
          · refine lv_aload_n hx hb dX6_work_59 rfl (lv_at hl 0 rfl) ?_
            refine gt6_3 C hP in_X6_work_6 ln_X6_work_2 dX6_work_60 ?_
            refine kv_p C (c_X4_size l D cI cZ (ad 9) (ad 10) (ad 11) (u 4)  ) (cwV 0 C.2.2.2.2.1 gX6_work_X4_size rfl rfl rfl hdX4_size ⟨Nat.le_of_ble_eq_true rfl, Nat.le_of_ble_eq_true rfl⟩) (ci := 4) (q0 := 0) rfl rfl rfl hP hD hS (su_6_4 cI cZ ad u) rfl hl.1 rfl (Nat.le_of_ble_eq_true rfl) dX6_work_63 ⟨Nat.zero_le _, Nat.zero_le _⟩ (fun H locs hP hS => ?_)
            refine lv_if_ne (tgt := 84) hx hb dX6_work_66 (by decide) (fun c_19 => ?_) (fun c_19 => ?_)
            · exact rt_v C hr hlk hP hD hS ((if_neg c_1).trans ((if_pos c_15).trans ((if_pos c_16).trans ((if_pos c_17).trans ((if_pos c_18).trans ((if_neg c_19).trans rfl)))))) dX6_work_84
            · refine lv_aload_n hx hb dX6_work_69 rfl (lv_at hl 0 rfl) ?_
              refine gt6_4 C hP in_X6_work_6 ln_X6_work_3 dX6_work_70 ?_
              refine kv_p C (c_X0_groupsLeft l D cI cZ (ad 12) (u 5)  ) (cwV 0 C.2.2.2.2.1 gX6_work_X0_groupsLeft rfl rfl rfl hdX0_groupsLeft ⟨Nat.le_of_ble_eq_true rfl, Nat.le_of_ble_eq_true rfl⟩) (ci := 0) (q0 := 0) rfl rfl rfl hP hD hS (su_6_5 cI cZ ad u) rfl hl.1 rfl (Nat.le_of_ble_eq_true rfl) dX6_work_73 ⟨Nat.zero_le _, Nat.zero_le _⟩ (fun H locs hP hS => ?_)
              refine lv_if_ne (tgt := 84) hx hb dX6_work_76 (by decide) (fun c_20 => ?_) (fun c_20 => ?_)
              · exact rt_v C hr hlk hP hD hS ((if_neg c_1).trans ((if_pos c_15).trans ((if_pos c_16).trans ((if_pos c_17).trans ((if_pos c_18).trans ((if_pos c_19).trans ((if_neg c_20).trans rfl))))))) dX6_work_84
              · refine lv_aload_n hx hb dX6_work_79 rfl (lv_at hl 0 rfl) ?_
                refine lv_iconst (v := 4) hx hb dX6_work_80 (by decide) ?_
                refine pt6_12 C hP hD hS in_X6_work_6 ln_X6_work_1 dX6_work_81 (fun H locs hP hD hS => ?_)
                exact rt_v C hr hlk hP hD hS ((if_neg c_1).trans ((if_pos c_15).trans ((if_pos c_16).trans ((if_pos c_17).trans ((if_pos c_18).trans ((if_pos c_19).trans ((if_pos c_20).trans rfl))))))) dX6_work_84
        · refine lv_aload_n hx hb dX6_work_46 rfl (lv_at hl 0 rfl) ?_
          refine kv_v C (c_X6_eraseFurther l D cI cZ ad u  hz) (cwV 0 C.2.2.2.2.1 gX6_work_X6_eraseFurther rfl rfl rfl hdX6_eraseFurther ⟨Nat.le_of_ble_eq_true rfl, Nat.le_of_ble_eq_true rfl⟩) (ci := 6) (q0 := 0) rfl rfl rfl hP hD hS (sp_self (fun u => (w_6 cI cZ ad u)) 15 (fun _ => rfl)) rfl hl.1 rfl (Nat.le_of_ble_eq_true rfl) dX6_work_47 ⟨Nat.zero_le _, Nat.zero_le _⟩ (fun H locs hP hD hS => ?_)
          refine lv_aload_n hx hb dX6_work_50 rfl (lv_at hl 0 rfl) ?_
          refine gt6_12 C hP in_X6_work_6 ln_X6_work_1 (v := (((f_X6_eraseFurther u) 0).1 12)) rfl dX6_work_51 ?_
          refine lv_bipush (v := 7) hx hb dX6_work_54 (by decide) ?_
          refine lv_icmp_ne (tgt := 84) hx hb dX6_work_56 (by decide) (fun c_22 => ?_) (fun c_22 => ?_)
          · exact rt_v C hr hlk hP hD hS ((if_neg c_1).trans ((if_pos c_15).trans ((if_pos c_16).trans ((if_neg c_17).trans ((if_neg c_22).trans rfl))))) dX6_work_84
          · refine lv_aload_n hx hb dX6_work_59 rfl (lv_at hl 0 rfl) ?_
            refine gt6_3 C hP in_X6_work_6 ln_X6_work_2 dX6_work_60 ?_
            refine kv_p C (c_X4_size l D cI cZ (ad 9) (ad 10) (ad 11) ((f_X6_eraseFurther u) 4)  ) (cwV 0 C.2.2.2.2.1 gX6_work_X4_size rfl rfl rfl hdX4_size ⟨Nat.le_of_ble_eq_true rfl, Nat.le_of_ble_eq_true rfl⟩) (ci := 4) (q0 := 0) rfl rfl rfl hP hD hS (su_6_4 cI cZ ad (f_X6_eraseFurther u)) rfl hl.1 rfl (Nat.le_of_ble_eq_true rfl) dX6_work_63 ⟨Nat.zero_le _, Nat.zero_le _⟩ (fun H locs hP hS => ?_)
            refine lv_if_ne (tgt := 84) hx hb dX6_work_66 (by decide) (fun c_23 => ?_) (fun c_23 => ?_)
            · exact rt_v C hr hlk hP hD hS ((if_neg c_1).trans ((if_pos c_15).trans ((if_pos c_16).trans ((if_neg c_17).trans ((if_pos c_22).trans ((if_neg c_23).trans rfl)))))) dX6_work_84
            · refine lv_aload_n hx hb dX6_work_69 rfl (lv_at hl 0 rfl) ?_
              refine gt6_4 C hP in_X6_work_6 ln_X6_work_3 dX6_work_70 ?_
              refine kv_p C (c_X0_groupsLeft l D cI cZ (ad 12) ((f_X6_eraseFurther u) 5)  ) (cwV 0 C.2.2.2.2.1 gX6_work_X0_groupsLeft rfl rfl rfl hdX0_groupsLeft ⟨Nat.le_of_ble_eq_true rfl, Nat.le_of_ble_eq_true rfl⟩) (ci := 0) (q0 := 0) rfl rfl rfl hP hD hS (su_6_5 cI cZ ad (f_X6_eraseFurther u)) rfl hl.1 rfl (Nat.le_of_ble_eq_true rfl) dX6_work_73 ⟨Nat.zero_le _, Nat.zero_le _⟩ (fun H locs hP hS => ?_)
              refine lv_if_ne (tgt := 84) hx hb dX6_work_76 (by decide) (fun c_24 => ?_) (fun c_24 => ?_)
              · exact rt_v C hr hlk hP hD hS ((if_neg c_1).trans ((if_pos c_15).trans ((if_pos c_16).trans ((if_neg c_17).trans ((if_pos c_22).trans ((if_pos c_23).trans ((if_neg c_24).trans rfl))))))) dX6_work_84
              · refine lv_aload_n hx hb dX6_work_79 rfl (lv_at hl 0 rfl) ?_
                refine lv_iconst (v := 4) hx hb dX6_work_80 (by decide) ?_
                refine pt6_12 C hP hD hS in_X6_work_6 ln_X6_work_1 dX6_work_81 (fun H locs hP hD hS => ?_)
                exact rt_v C hr hlk hP hD hS ((if_neg c_1).trans ((if_pos c_15).trans ((if_pos c_16).trans ((if_neg c_17).trans ((if_pos c_22).trans ((if_pos c_23).trans ((if_pos c_24).trans rfl))))))) dX6_work_84
      · refine lv_aload_n hx hb dX6_work_29 rfl (lv_at hl 0 rfl) ?_
        refine kv_v C (c_X6_writeFurther l D cI cZ ad u  hz) (cwV 0 C.2.2.2.2.1 gX6_work_X6_writeFurther rfl rfl rfl hdX6_writeFurther ⟨Nat.le_of_ble_eq_true rfl, Nat.le_of_ble_eq_true rfl⟩) (ci := 6) (q0 := 0) rfl rfl rfl hP hD hS (sp_self (fun u => (w_6 cI cZ ad u)) 15 (fun _ => rfl)) rfl hl.1 rfl (Nat.le_of_ble_eq_true rfl) dX6_work_30 ⟨Nat.zero_le _, Nat.zero_le _⟩ (fun H locs hP hD hS => ?_)
        refine lv_goto (tgt := 50) hx hb dX6_work_33 (by decide) ?_
        refine lv_aload_n hx hb dX6_work_50 rfl (lv_at hl 0 rfl) ?_
        refine gt6_12 C hP in_X6_work_6 ln_X6_work_1 (v := (((f_X6_writeFurther u) 0).1 12)) rfl dX6_work_51 ?_
        refine lv_bipush (v := 7) hx hb dX6_work_54 (by decide) ?_
        refine lv_icmp_ne (tgt := 84) hx hb dX6_work_56 (by decide) (fun c_26 => ?_) (fun c_26 => ?_)
        · exact rt_v C hr hlk hP hD hS ((if_neg c_1).trans ((if_pos c_15).trans ((if_neg c_16).trans ((if_neg c_26).trans rfl)))) dX6_work_84
        · refine lv_aload_n hx hb dX6_work_59 rfl (lv_at hl 0 rfl) ?_
          refine gt6_3 C hP in_X6_work_6 ln_X6_work_2 dX6_work_60 ?_
          refine kv_p C (c_X4_size l D cI cZ (ad 9) (ad 10) (ad 11) ((f_X6_writeFurther u) 4)  ) (cwV 0 C.2.2.2.2.1 gX6_work_X4_size rfl rfl rfl hdX4_size ⟨Nat.le_of_ble_eq_true rfl, Nat.le_of_ble_eq_true rfl⟩) (ci := 4) (q0 := 0) rfl rfl rfl hP hD hS (su_6_4 cI cZ ad (f_X6_writeFurther u)) rfl hl.1 rfl (Nat.le_of_ble_eq_true rfl) dX6_work_63 ⟨Nat.zero_le _, Nat.zero_le _⟩ (fun H locs hP hS => ?_)
          refine lv_if_ne (tgt := 84) hx hb dX6_work_66 (by decide) (fun c_27 => ?_) (fun c_27 => ?_)
          · exact rt_v C hr hlk hP hD hS ((if_neg c_1).trans ((if_pos c_15).trans ((if_neg c_16).trans ((if_pos c_26).trans ((if_neg c_27).trans rfl))))) dX6_work_84
          · refine lv_aload_n hx hb dX6_work_69 rfl (lv_at hl 0 rfl) ?_
            refine gt6_4 C hP in_X6_work_6 ln_X6_work_3 dX6_work_70 ?_
            refine kv_p C (c_X0_groupsLeft l D cI cZ (ad 12) ((f_X6_writeFurther u) 5)  ) (cwV 0 C.2.2.2.2.1 gX6_work_X0_groupsLeft rfl rfl rfl hdX0_groupsLeft ⟨Nat.le_of_ble_eq_true rfl, Nat.le_of_ble_eq_true rfl⟩) (ci := 0) (q0 := 0) rfl rfl rfl hP hD hS (su_6_5 cI cZ ad (f_X6_writeFurther u)) rfl hl.1 rfl (Nat.le_of_ble_eq_true rfl) dX6_work_73 ⟨Nat.zero_le _, Nat.zero_le _⟩ (fun H locs hP hS => ?_)
            refine lv_if_ne (tgt := 84) hx hb dX6_work_76 (by decide) (fun c_28 => ?_) (fun c_28 => ?_)
            · exact rt_v C hr hlk hP hD hS ((if_neg c_1).trans ((if_pos c_15).trans ((if_neg c_16).trans ((if_pos c_26).trans ((if_pos c_27).trans ((if_neg c_28).trans rfl)))))) dX6_work_84
            · refine lv_aload_n hx hb dX6_work_79 rfl (lv_at hl 0 rfl) ?_
              refine lv_iconst (v := 4) hx hb dX6_work_80 (by decide) ?_
              refine pt6_12 C hP hD hS in_X6_work_6 ln_X6_work_1 dX6_work_81 (fun H locs hP hD hS => ?_)
              exact rt_v C hr hlk hP hD hS ((if_neg c_1).trans ((if_pos c_15).trans ((if_neg c_16).trans ((if_pos c_26).trans ((if_pos c_27).trans ((if_pos c_28).trans rfl)))))) dX6_work_84
    · exact rt_v C hr hlk hP hD hS ((if_neg c_1).trans ((if_neg c_15).trans rfl)) dX6_work_18
theorem ln_X6_tick_1 : Cond.fieldLink RX6 153 "BlockCard" "ticks" "I" ∈ wsX6_tick := List.mem_of_getElem? (i := 1) rfl
theorem in_X6_tick_6 : ∀ w ∈ wsX60, w ∈ wsX6_tick := fun w h => List.mem_cons_of_mem _ (List.mem_append_left _ (List.mem_append_left _ (List.mem_append_left _ (List.mem_append_left _ (List.mem_append_right _ h)))))
set_option maxHeartbeats 4000000 in
set_option maxRecDepth 100000 in
theorem lp_X6_tick_15 {p : Program} {l : Launch} {e : Env} {s : State} {m : MethodId} {args : Array Value} {below : List Frame} {meth : Method} {c : Code} {D : va_G} {A : Nat → Prop} {cI cZ : ClassId} {ad : Nat → Nat} {x1 : Int32} {F : Int32 × cd_S} (C : cx_C p c cX6_tick 3 s m args wsX6_tick RX6 D (ct_T cI cZ) A) (hr : meth.sig.returnType = some .int) (hlk : meth.locks = false) (I : cd_S → Prop) (h4 : ∀ u, I u → ((u 1).1 4).toInt ≤ 64) (hst : ∀ u, I u → I (f_X6_work (cd_i u 10 ((u 0).1 10 + 1)))) : ∀ (n : Nat) (x2 : Int32) (u : cd_S) (H : Heap) (locs : List Loc) (ls : Array Slot), x1.toInt - x2.toInt < (n : Int) → x2.toInt ≤ x1.toInt → I u → F = k_X6_tick_15 x1 n x2 u → va_P D vwCl (w_6 cI cZ ad u) H → va_D A (w_6 cI cZ ad u) → va_S A s.heap H locs → lv_has ls 3 [(0, .ref (ad 0)), (1, .int x1), (2, .int x2)] → W p l e ({ frames := 5, cells := 0, slots := 0, locals := 111 } : Room) s m args below meth c H locs 0 0 (MQ below (ct_Qi D (ct_T cI cZ) (fun u => (w_6 cI cZ ad u)) F A) args s 0 0 A) (F0 m 15 ls []) := by
  have hx := C.1
  have hb := C.2.1
  intro n
  induction n with
  | zero =>
    intro x2 u H locs ls i0 i1 i2
    exact absurd i0 (by omega)
  | succ n ih =>
    intro x2 u H locs ls i0 i1 i2 hF hP hD hS hl
    refine lv_iload_n hx hb dX6_tick_15 rfl (lv_at hl 2 rfl) ?_
    refine lv_iload_n hx hb dX6_tick_16 rfl (lv_at hl 1 rfl) ?_
    refine lv_icmp_ge (tgt := 40) hx hb dX6_tick_17 (by decide) (fun c_2 => ?_) (fun c_2 => ?_)
    · refine lv_aload_n hx hb dX6_tick_40 rfl (lv_at hl 0 rfl) ?_
      refine gt6_10 C hP in_X6_tick_6 ln_X6_tick_1 (v := ((u 0).1 10)) rfl dX6_tick_41 ?_
      exact rt_i C hr hlk hP hD hS (hF.trans ((if_pos c_2).trans rfl)) dX6_tick_44
    · refine lv_aload_n hx hb dX6_tick_20 rfl (lv_at hl 0 rfl) ?_
      refine lv_dup hx hb dX6_tick_21 rfl ?_
      refine gt6_10 C hP in_X6_tick_6 ln_X6_tick_1 (v := ((u 0).1 10)) rfl dX6_tick_22 ?_
      refine lv_iconst (v := 1) hx hb dX6_tick_25 (by decide) ?_
      refine lv_iadd hx hb dX6_tick_26 ?_
      refine pt6_10 C hP hD hS in_X6_tick_6 ln_X6_tick_1 dX6_tick_27 (fun H locs hP hD hS => ?_)
      refine lv_aload_n hx hb dX6_tick_30 rfl (lv_at hl 0 rfl) ?_
      refine kv_v C (c_X6_work l D cI cZ ad (cd_i u 10 (((u 0).1 10) + 1))  (h4 u i2)) (cwV 0 C.2.2.2.2.1 gX6_tick_X6_work rfl rfl rfl hdX6_work ⟨Nat.le_of_ble_eq_true rfl, Nat.le_of_ble_eq_true rfl⟩) (ci := 6) (q0 := 0) rfl rfl rfl hP hD hS (sp_self (fun u => (w_6 cI cZ ad u)) 15 (fun _ => rfl)) rfl hl.1 rfl (Nat.le_of_ble_eq_true rfl) dX6_tick_31 ⟨Nat.zero_le _, Nat.zero_le _⟩ (fun H locs hP hD hS => ?_)
      refine lv_iinc (v := (x2 + 1)) (lv' := [(2, .int _), (0, .ref _), (1, .int _)]) hx hb dX6_tick_34 hl (k := 2) rfl rfl (by decide) rfl (fun ls hl => ?_)
      refine lv_goto (tgt := 15) hx hb dX6_tick_37 (by decide) ?_
      exact ih (x2 + 1) (f_X6_work (cd_i u 10 (((u 0).1 10) + 1)))  _ _ _ (by have h := nle_t c_2; have h2 := inc_t (x := x2) (y := x1) (by rw [Int32.lt_iff_toInt_lt]; exact h); omega) (by have h := nle_t c_2; have h2 := inc_t (x := x2) (y := x1) (by rw [Int32.lt_iff_toInt_lt]; exact h); omega) (hst u i2) (hF.trans ((if_neg c_2).trans rfl)) hP hD hS (lv_sub hl [1, 2, 0] rfl)
set_option maxHeartbeats 4000000 in
set_option maxRecDepth 100000 in
theorem c_X6_tick (l : Launch) (D : va_G) (cI cZ : ClassId) (ad : Nat → Nat) (u : cd_S) (x1 : Int32) (I : cd_S → Prop) (hI : I u) (h4 : ∀ u, I u → ((u 1).1 4).toInt ≤ 64) (hst : ∀ u, I u → I (f_X6_work (cd_i u 10 ((u 0).1 10 + 1)))) : Ct_i l yX6_tick wsX6_tick ({ frames := 5, cells := 0, slots := 0, locals := 111 } : Room) D (ct_T cI cZ) [.ref (ad 0), .int x1] (w_6 cI cZ ad u) (fun u => (w_6 cI cZ ad u)) (f_X6_tick u x1) := by
  refine en_i (cc := cX6_tick) (maxL := 3) (ret := (some .int)) (own := RX6) (by decide +kernel) rfl rfl (Nat.le_of_ble_eq_true rfl) ?_
  intro p e s m args below meth c A ls C hr hlk hP hD hS hl
  have hx := C.1
  have hb := C.2.1
  have hl : lv_has ls 3 [(0, .ref (ad 0)), (1, .int x1)] := hl
  refine lv_iload_n hx hb dX6_tick_0 rfl (lv_at hl 1 rfl) ?_
  refine lv_iconst (v := 1) hx hb dX6_tick_1 (by decide) ?_
  refine lv_sipush (v := 400) hx hb dX6_tick_2 (by decide) ?_
  refine ks_p C (c_X6_isOutside l D cI cZ x1 1 400 ) (va_cwS 3 C.2.2.2.2.1 gX6_tick_X6_isOutside rfl rfl rfl hdX6_isOutside ⟨Nat.le_of_ble_eq_true rfl, Nat.le_of_ble_eq_true rfl⟩) hP hD hS rfl hl.1 rfl (Nat.le_of_ble_eq_true rfl) dX6_tick_5 ⟨Nat.zero_le _, Nat.zero_le _⟩ (fun H locs hP hS => ?_)
  refine lv_if_eq (tgt := 13) hx hb dX6_tick_8 (by decide) (fun c_1 => ?_) (fun c_1 => ?_)
  · refine lv_iconst (v := 0) hx hb dX6_tick_13 (by decide) ?_
    refine lv_istore_n (lv' := [(2, .int _), (0, .ref _), (1, .int _)]) hx hb dX6_tick_14 rfl hl (by decide) rfl (fun ls hl => ?_)
    exact lp_X6_tick_15 C hr hlk  I h4 hst 401 0 u _ _ _ (by have h := os_t c_1; have e : (400 : Int32).toInt = 400 := (by decide); have e2 : (0 : Int32).toInt = 0 := (by decide); omega) (by have h := os_t c_1; have e : (1 : Int32).toInt = 1 := (by decide); have e2 : (0 : Int32).toInt = 0 := (by decide); omega) hI ((if_pos c_1).trans rfl) hP hD hS (lv_sub hl [1, 2, 0] rfl)
  · refine lv_iconst (v := (-1)) hx hb dX6_tick_11 (by decide) ?_
    exact rt_i C hr hlk hP hD hS ((if_neg c_1).trans rfl) dX6_tick_12
set_option maxHeartbeats 4000000 in
set_option maxRecDepth 100000 in
theorem lp_X6_tune_4 {p : Program} {l : Launch} {e : Env} {s : State} {m : MethodId} {args : Array Value} {below : List Frame} {meth : Method} {c : Code} {D : va_G} {A : Nat → Prop} {cI cZ : ClassId} {ad : Nat → Nat} {F : Int32 × cd_S} (C : cx_C p c cX6_tune 3 s m args wsX6_tune RX6 D (ct_T cI cZ) A) (hr : meth.sig.returnType = some .int) (hlk : meth.locks = false) (I : cd_S → Prop) (h4 : ∀ u, I u → pc_A u) (hs1 : ∀ u a, I u → I (f_X6_hears u 21 a (f_X6_commandCheck 21 a)).2) (hs2 : ∀ u a, I u → I (f_X6_obey u 21 a).2) : ∀ (n : Nat) (x1 : Int32) (x2 : Int32) (u : cd_S) (H : Heap) (locs : List Loc) (ls : Array Slot), 16 - x2.toInt < (n : Int) → x2.toInt ≤ 16 → I u → F = k_X6_tune_4  n x1 x2 u → va_P D vwCl (w_6 cI cZ ad u) H → va_D A (w_6 cI cZ ad u) → va_S A s.heap H locs → lv_has ls 3 [(0, .ref (ad 0)), (1, .int x1), (2, .int x2)] → W p l e ({ frames := 6, cells := 0, slots := 0, locals := 132 } : Room) s m args below meth c H locs 0 0 (MQ below (ct_Qi D (ct_T cI cZ) (fun u => (w_6 cI cZ ad u)) F A) args s 0 0 A) (F0 m 4 ls []) := by
  have hx := C.1
  have hb := C.2.1
  intro n
  induction n with
  | zero =>
    intro x1 x2 u H locs ls i0 i1 i2
    exact absurd i0 (by omega)
  | succ n ih =>
    intro x1 x2 u H locs ls i0 i1 i2 hF hP hD hS hl
    refine lv_iload_n hx hb dX6_tune_4 rfl (lv_at hl 2 rfl) ?_
    refine lv_bipush (v := 16) hx hb dX6_tune_5 (by decide) ?_
    refine lv_icmp_ge (tgt := 47) hx hb dX6_tune_7 (by decide) (fun c_1 => ?_) (fun c_1 => ?_)
    · refine lv_iload_n hx hb dX6_tune_47 rfl (lv_at hl 1 rfl) ?_
      refine lv_if_ne (tgt := 54) hx hb dX6_tune_48 (by decide) (fun c_2 => ?_) (fun c_2 => ?_)
      · refine lv_iload_n hx hb dX6_tune_54 rfl (lv_at hl 1 rfl) ?_
        refine ks_p C (c_X6_middleOfLongestRow l D cI cZ x1 ) (va_cwS 1 C.2.2.2.2.1 gX6_tune_X6_middleOfLongestRow rfl rfl rfl hdX6_middleOfLongestRow ⟨Nat.le_of_ble_eq_true rfl, Nat.le_of_ble_eq_true rfl⟩) hP hD hS rfl hl.1 rfl (Nat.le_of_ble_eq_true rfl) dX6_tune_55 ⟨Nat.zero_le _, Nat.zero_le _⟩ (fun H locs hP hS => ?_)
        refine lv_istore_n (lv' := [(2, .int _), (0, .ref _), (1, .int _)]) hx hb dX6_tune_58 rfl hl (by decide) rfl (fun ls hl => ?_)
        refine lv_aload_n hx hb dX6_tune_59 rfl (lv_at hl 1 rfl) ?_
        refine lv_bipush (v := 21) hx hb dX6_tune_60 (by decide) ?_
        refine lv_iload_n hx hb dX6_tune_62 rfl (lv_at hl 0 rfl) ?_
        refine lv_bipush (v := 21) hx hb dX6_tune_63 (by decide) ?_
        refine lv_iload_n hx hb dX6_tune_65 rfl (lv_at hl 0 rfl) ?_
        refine ks_p C (c_X6_commandCheck l D cI cZ 21 (f_X6_middleOfLongestRow x1) ) (va_cwS 2 C.2.2.2.2.1 gX6_tune_X6_commandCheck rfl rfl rfl hdX6_commandCheck ⟨Nat.le_of_ble_eq_true rfl, Nat.le_of_ble_eq_true rfl⟩) hP hD hS rfl hl.1 rfl (Nat.le_of_ble_eq_true rfl) dX6_tune_66 ⟨Nat.zero_le _, Nat.zero_le _⟩ (fun H locs hP hS => ?_)
        refine kv_i C (c_X6_hears l D cI cZ ad u 21 (f_X6_middleOfLongestRow x1) (f_X6_commandCheck 21 (f_X6_middleOfLongestRow x1)) ) (cwV 3 C.2.2.2.2.1 gX6_tune_X6_hears rfl rfl rfl hdX6_hears ⟨Nat.le_of_ble_eq_true rfl, Nat.le_of_ble_eq_true rfl⟩) (ci := 6) (q0 := 0) rfl rfl rfl hP hD hS (sp_self (fun u => (w_6 cI cZ ad u)) 15 (fun _ => rfl)) rfl hl.1 rfl (Nat.le_of_ble_eq_true rfl) dX6_tune_69 ⟨Nat.zero_le _, Nat.zero_le _⟩ (fun H locs hP hD hS => ?_)
        refine lv_if_eq (tgt := 83) hx hb dX6_tune_72 (by decide) (fun c_4 => ?_) (fun c_4 => ?_)
        · refine lv_iload_n hx hb dX6_tune_83 rfl (lv_at hl 0 rfl) ?_
          exact rt_i C hr hlk hP hD hS (hF.trans ((if_pos c_1).trans ((if_neg c_2).trans ((if_pos c_4).trans rfl)))) dX6_tune_84
        · refine lv_aload_n hx hb dX6_tune_75 rfl (lv_at hl 1 rfl) ?_
          refine lv_bipush (v := 21) hx hb dX6_tune_76 (by decide) ?_
          refine lv_iload_n hx hb dX6_tune_78 rfl (lv_at hl 0 rfl) ?_
          refine kv_i C (c_X6_obey l D cI cZ ad (f_X6_hears u 21 (f_X6_middleOfLongestRow x1) (f_X6_commandCheck 21 (f_X6_middleOfLongestRow x1))).2 21 (f_X6_middleOfLongestRow x1) (h4 _ (hs1 _ _ i2))) (cwV 2 C.2.2.2.2.1 gX6_tune_X6_obey rfl rfl rfl hdX6_obey ⟨Nat.le_of_ble_eq_true rfl, Nat.le_of_ble_eq_true rfl⟩) (ci := 6) (q0 := 0) rfl rfl rfl hP hD hS (sp_self (fun u => (w_6 cI cZ ad u)) 15 (fun _ => rfl)) rfl hl.1 rfl (Nat.le_of_ble_eq_true rfl) dX6_tune_79 ⟨Nat.zero_le _, Nat.zero_le _⟩ (fun H locs hP hD hS => ?_)
          refine lv_pop hx hb dX6_tune_82 rfl ?_
          refine lv_iload_n hx hb dX6_tune_83 rfl (lv_at hl 0 rfl) ?_
          exact rt_i C hr hlk hP hD hS (hF.trans ((if_pos c_1).trans ((if_neg c_2).trans ((if_neg c_4).trans rfl)))) dX6_tune_84
      · refine lv_bipush (v := (-2)) hx hb dX6_tune_51 (by decide) ?_
        exact rt_i C hr hlk hP hD hS (hF.trans ((if_pos c_1).trans ((if_pos c_2).trans rfl))) dX6_tune_53
    · refine lv_aload_n hx hb dX6_tune_10 rfl (lv_at hl 0 rfl) ?_
      refine lv_bipush (v := 21) hx hb dX6_tune_11 (by decide) ?_
      refine lv_iload_n hx hb dX6_tune_13 rfl (lv_at hl 2 rfl) ?_
      refine lv_bipush (v := 21) hx hb dX6_tune_14 (by decide) ?_
      refine lv_iload_n hx hb dX6_tune_16 rfl (lv_at hl 2 rfl) ?_
      refine ks_p C (c_X6_commandCheck l D cI cZ 21 x2 ) (va_cwS 2 C.2.2.2.2.1 gX6_tune_X6_commandCheck rfl rfl rfl hdX6_commandCheck ⟨Nat.le_of_ble_eq_true rfl, Nat.le_of_ble_eq_true rfl⟩) hP hD hS rfl hl.1 rfl (Nat.le_of_ble_eq_true rfl) dX6_tune_17 ⟨Nat.zero_le _, Nat.zero_le _⟩ (fun H locs hP hS => ?_)
      refine kv_i C (c_X6_hears l D cI cZ ad u 21 x2 (f_X6_commandCheck 21 x2) ) (cwV 3 C.2.2.2.2.1 gX6_tune_X6_hears rfl rfl rfl hdX6_hears ⟨Nat.le_of_ble_eq_true rfl, Nat.le_of_ble_eq_true rfl⟩) (ci := 6) (q0 := 0) rfl rfl rfl hP hD hS (sp_self (fun u => (w_6 cI cZ ad u)) 15 (fun _ => rfl)) rfl hl.1 rfl (Nat.le_of_ble_eq_true rfl) dX6_tune_20 ⟨Nat.zero_le _, Nat.zero_le _⟩ (fun H locs hP hD hS => ?_)
      refine lv_if_ne (tgt := 29) hx hb dX6_tune_23 (by decide) (fun c_7 => ?_) (fun c_7 => ?_)
      · refine lv_iload_n hx hb dX6_tune_29 rfl (lv_at hl 1 rfl) ?_
        refine lv_aload_n hx hb dX6_tune_30 rfl (lv_at hl 0 rfl) ?_
        refine lv_bipush (v := 21) hx hb dX6_tune_31 (by decide) ?_
        refine lv_iload_n hx hb dX6_tune_33 rfl (lv_at hl 2 rfl) ?_
        refine kv_i C (c_X6_obey l D cI cZ ad (f_X6_hears u 21 x2 (f_X6_commandCheck 21 x2)).2 21 x2 (h4 _ (hs1 _ _ i2))) (cwV 2 C.2.2.2.2.1 gX6_tune_X6_obey rfl rfl rfl hdX6_obey ⟨Nat.le_of_ble_eq_true rfl, Nat.le_of_ble_eq_true rfl⟩) (ci := 6) (q0 := 0) rfl rfl rfl hP hD hS (sp_self (fun u => (w_6 cI cZ ad u)) 15 (fun _ => rfl)) rfl hl.1 rfl (Nat.le_of_ble_eq_true rfl) dX6_tune_34 ⟨Nat.zero_le _, Nat.zero_le _⟩ (fun H locs hP hD hS => ?_)
        refine lv_iload_n hx hb dX6_tune_37 rfl (lv_at hl 2 rfl) ?_
        refine lv_ishl hx hb dX6_tune_38 ?_
        refine lv_ior hx hb dX6_tune_39 ?_
        refine lv_istore_n (lv' := [(1, .int _), (0, .ref _), (2, .int _)]) hx hb dX6_tune_40 rfl hl (by decide) rfl (fun ls hl => ?_)
        refine lv_iinc (v := (x2 + 1)) (lv' := [(2, .int _), (1, .int _), (0, .ref _)]) hx hb dX6_tune_41 hl (k := 2) rfl rfl (by decide) rfl (fun ls hl => ?_)
        refine lv_goto (tgt := 4) hx hb dX6_tune_44 (by decide) ?_
        exact ih (x1 ||| ((f_X6_obey (f_X6_hears u 21 x2 (f_X6_commandCheck 21 x2)).2 21 x2).1 <<< ((x2 : Int32) &&& 31))) (x2 + 1) (f_X6_obey (f_X6_hears u 21 x2 (f_X6_commandCheck 21 x2)).2 21 x2).2  _ _ _ (by have h := nle_k (n := 16) c_1 (by decide); have h2 := inc_b h (by decide); omega) (by have h := nle_k (n := 16) c_1 (by decide); have h2 := inc_b h (by decide); omega) (hs2 _ _ (hs1 _ _ i2)) (hF.trans ((if_neg c_1).trans ((if_neg c_7).trans rfl))) hP hD hS (lv_sub hl [2, 1, 0] rfl)
      · refine lv_bipush (v := (-4)) hx hb dX6_tune_26 (by decide) ?_
        exact rt_i C hr hlk hP hD hS (hF.trans ((if_neg c_1).trans ((if_pos c_7).trans rfl))) dX6_tune_28
set_option maxHeartbeats 4000000 in
set_option maxRecDepth 100000 in
theorem c_X6_tune (l : Launch) (D : va_G) (cI cZ : ClassId) (ad : Nat → Nat) (u : cd_S) (I : cd_S → Prop) (hI : I u) (h4 : ∀ u, I u → pc_A u) (hs1 : ∀ u a, I u → I (f_X6_hears u 21 a (f_X6_commandCheck 21 a)).2) (hs2 : ∀ u a, I u → I (f_X6_obey u 21 a).2) : Ct_i l yX6_tune wsX6_tune ({ frames := 6, cells := 0, slots := 0, locals := 132 } : Room) D (ct_T cI cZ) [.ref (ad 0)] (w_6 cI cZ ad u) (fun u => (w_6 cI cZ ad u)) (f_X6_tune u) := by
  refine en_i (cc := cX6_tune) (maxL := 3) (ret := (some .int)) (own := RX6) (by decide +kernel) rfl rfl (Nat.le_of_ble_eq_true rfl) ?_
  intro p e s m args below meth c A ls C hr hlk hP hD hS hl
  have hx := C.1
  have hb := C.2.1
  have hl : lv_has ls 3 [(0, .ref (ad 0))] := hl
  refine lv_iconst (v := 0) hx hb dX6_tune_0 (by decide) ?_
  refine lv_istore_n (lv' := [(1, .int _), (0, .ref _)]) hx hb dX6_tune_1 rfl hl (by decide) rfl (fun ls hl => ?_)
  refine lv_iconst (v := 0) hx hb dX6_tune_2 (by decide) ?_
  refine lv_istore_n (lv' := [(2, .int _), (1, .int _), (0, .ref _)]) hx hb dX6_tune_3 rfl hl (by decide) rfl (fun ls hl => ?_)
  exact lp_X6_tune_4 C hr hlk  I h4 hs1 hs2 17 0 0 u _ _ _ (by decide) (by decide) hI rfl hP hD hS (lv_sub hl [2, 1, 0] rfl)
theorem ln_X6_block_1 : Cond.fieldLink RX6 10 "BlockCard" "memory" "LBlockCard$Memory;" ∈ wsX6_block := List.mem_of_getElem? (i := 1) rfl
theorem in_X6_block_6 : ∀ w ∈ wsX60, w ∈ wsX6_block := fun w h => List.mem_cons_of_mem _ (List.mem_append_left _ (List.mem_append_right _ h))
set_option maxHeartbeats 4000000 in
set_option maxRecDepth 100000 in
theorem c_X6_block (l : Launch) (D : va_G) (cI cZ : ClassId) (ad : Nat → Nat) (u : cd_S) (x1 : Int32) (x2 : Int32) (hz : ((u 1).1 4).toInt ≤ 64) : Ct_p l yX6_block wsX6_block ({ frames := 2, cells := 0, slots := 0, locals := 42 } : Room) D (ct_T cI cZ) [.ref (ad 0), .int x1, .int x2] (w_6 cI cZ ad u) (f_X6_block u x1 x2) := by
  refine en_p (cc := cX6_block) (maxL := 3) (ret := (some .int)) (own := RX6) (by decide +kernel) rfl rfl (Nat.le_of_ble_eq_true rfl) ?_
  intro p e s m args below meth c A ls C hr hlk hP hD hS hl
  have hx := C.1
  have hb := C.2.1
  have hl : lv_has ls 3 [(0, .ref (ad 0)), (1, .int x1), (2, .int x2)] := hl
  refine lv_aload_n hx hb dX6_block_0 rfl (lv_at hl 0 rfl) ?_
  refine gt6_0 C hP in_X6_block_6 ln_X6_block_1 dX6_block_1 ?_
  refine lv_iload_n hx hb dX6_block_4 rfl (lv_at hl 1 rfl) ?_
  refine kv_p C (c_X3_has l D cI cZ (ad 1) (ad 2) (ad 3) (ad 4) (u 1) x1 ) (cwV 1 C.2.2.2.2.1 gX6_block_X3_has rfl rfl rfl hdX3_has ⟨Nat.le_of_ble_eq_true rfl, Nat.le_of_ble_eq_true rfl⟩) (ci := 3) (q0 := 0) rfl rfl rfl hP hD hS (su_6_1 cI cZ ad u) rfl hl.1 rfl (Nat.le_of_ble_eq_true rfl) dX6_block_5 ⟨Nat.zero_le _, Nat.zero_le _⟩ (fun H locs hP hS => ?_)
  refine lv_if_eq (tgt := 20) hx hb dX6_block_8 (by decide) (fun c_1 => ?_) (fun c_1 => ?_)
  · refine lv_iconst (v := (-1)) hx hb dX6_block_20 (by decide) ?_
    exact rt_p C hr hlk hS ((if_pos c_1).trans rfl) dX6_block_21
  · refine lv_iload_n hx hb dX6_block_11 rfl (lv_at hl 2 rfl) ?_
    refine lv_iconst (v := 0) hx hb dX6_block_12 (by decide) ?_
    refine lv_iconst (v := 2) hx hb dX6_block_13 (by decide) ?_
    refine ks_p C (c_X6_isOutside l D cI cZ x2 0 2 ) (va_cwS 3 C.2.2.2.2.1 gX6_block_X6_isOutside rfl rfl rfl hdX6_isOutside ⟨Nat.le_of_ble_eq_true rfl, Nat.le_of_ble_eq_true rfl⟩) hP hD hS rfl hl.1 rfl (Nat.le_of_ble_eq_true rfl) dX6_block_14 ⟨Nat.zero_le _, Nat.zero_le _⟩ (fun H locs hP hS => ?_)
    refine lv_if_eq (tgt := 22) hx hb dX6_block_17 (by decide) (fun c_2 => ?_) (fun c_2 => ?_)
    · refine lv_iload_n hx hb dX6_block_22 rfl (lv_at hl 2 rfl) ?_
      refine lv_if_ne (tgt := 35) hx hb dX6_block_23 (by decide) (fun c_3 => ?_) (fun c_3 => ?_)
      · refine lv_iload_n hx hb dX6_block_35 rfl (lv_at hl 2 rfl) ?_
        refine lv_iconst (v := 1) hx hb dX6_block_36 (by decide) ?_
        refine lv_icmp_ne (tgt := 52) hx hb dX6_block_37 (by decide) (fun c_4 => ?_) (fun c_4 => ?_)
        · refine lv_aload_n hx hb dX6_block_52 rfl (lv_at hl 0 rfl) ?_
          refine gt6_0 C hP in_X6_block_6 ln_X6_block_1 dX6_block_53 ?_
          refine lv_iload_n hx hb dX6_block_56 rfl (lv_at hl 1 rfl) ?_
          refine kv_p C (c_X3_groupOf l D cI cZ (ad 1) (ad 2) (ad 3) (ad 4) (u 1) x1 ) (cwV 1 C.2.2.2.2.1 gX6_block_X3_groupOf rfl rfl rfl hdX3_groupOf ⟨Nat.le_of_ble_eq_true rfl, Nat.le_of_ble_eq_true rfl⟩) (ci := 3) (q0 := 0) rfl rfl rfl hP hD hS (su_6_1 cI cZ ad u) rfl hl.1 rfl (Nat.le_of_ble_eq_true rfl) dX6_block_57 ⟨Nat.zero_le _, Nat.zero_le _⟩ (fun H locs hP hS => ?_)
          exact rt_p C hr hlk hS ((if_neg c_1).trans ((if_pos c_2).trans ((if_neg c_3).trans ((if_neg c_4).trans rfl)))) dX6_block_60
        · refine lv_aload_n hx hb dX6_block_40 rfl (lv_at hl 0 rfl) ?_
          refine gt6_0 C hP in_X6_block_6 ln_X6_block_1 dX6_block_41 ?_
          refine lv_iload_n hx hb dX6_block_44 rfl (lv_at hl 1 rfl) ?_
          refine kv_p C (c_X3_isTorn l D cI cZ (ad 1) (ad 2) (ad 3) (ad 4) (u 1) x1 hz) (cwV 1 C.2.2.2.2.1 gX6_block_X3_isTorn rfl rfl rfl hdX3_isTorn ⟨Nat.le_of_ble_eq_true rfl, Nat.le_of_ble_eq_true rfl⟩) (ci := 3) (q0 := 0) rfl rfl rfl hP hD hS (su_6_1 cI cZ ad u) rfl hl.1 rfl (Nat.le_of_ble_eq_true rfl) dX6_block_45 ⟨Nat.zero_le _, Nat.zero_le _⟩ (fun H locs hP hS => ?_)
          refine ks_p C (c_X6_asNumber l D cI cZ (f_X3_isTorn (u 1) x1) ) (va_cwS 1 C.2.2.2.2.1 gX6_block_X6_asNumber rfl rfl rfl hdX6_asNumber ⟨Nat.le_of_ble_eq_true rfl, Nat.le_of_ble_eq_true rfl⟩) hP hD hS rfl hl.1 rfl (Nat.le_of_ble_eq_true rfl) dX6_block_48 ⟨Nat.zero_le _, Nat.zero_le _⟩ (fun H locs hP hS => ?_)
          exact rt_p C hr hlk hS ((if_neg c_1).trans ((if_pos c_2).trans ((if_neg c_3).trans ((if_pos c_4).trans rfl)))) dX6_block_51
      · refine lv_aload_n hx hb dX6_block_26 rfl (lv_at hl 0 rfl) ?_
        refine gt6_0 C hP in_X6_block_6 ln_X6_block_1 dX6_block_27 ?_
        refine lv_iload_n hx hb dX6_block_30 rfl (lv_at hl 1 rfl) ?_
        refine kv_p C (c_X3_contentOf l D cI cZ (ad 1) (ad 2) (ad 3) (ad 4) (u 1) x1 hz) (cwV 1 C.2.2.2.2.1 gX6_block_X3_contentOf rfl rfl rfl hdX3_contentOf ⟨Nat.le_of_ble_eq_true rfl, Nat.le_of_ble_eq_true rfl⟩) (ci := 3) (q0 := 0) rfl rfl rfl hP hD hS (su_6_1 cI cZ ad u) rfl hl.1 rfl (Nat.le_of_ble_eq_true rfl) dX6_block_31 ⟨Nat.zero_le _, Nat.zero_le _⟩ (fun H locs hP hS => ?_)
        exact rt_p C hr hlk hS ((if_neg c_1).trans ((if_pos c_2).trans ((if_pos c_3).trans rfl))) dX6_block_34
    · refine lv_iconst (v := (-1)) hx hb dX6_block_20 (by decide) ?_
      exact rt_p C hr hlk hS ((if_neg c_1).trans ((if_neg c_2).trans rfl)) dX6_block_21
theorem ln_X6_latest_1 : Cond.fieldLink RX6 10 "BlockCard" "memory" "LBlockCard$Memory;" ∈ wsX6_latest := List.mem_of_getElem? (i := 1) rfl
theorem in_X6_latest_6 : ∀ w ∈ wsX60, w ∈ wsX6_latest := fun w h => List.mem_cons_of_mem _ (List.mem_append_left _ (List.mem_append_right _ h))
set_option maxHeartbeats 4000000 in
set_option maxRecDepth 100000 in
theorem c_X6_latest (l : Launch) (D : va_G) (cI cZ : ClassId) (ad : Nat → Nat) (u : cd_S) (x1 : Int32)  : Ct_p l yX6_latest wsX6_latest ({ frames := 1, cells := 0, slots := 0, locals := 21 } : Room) D (ct_T cI cZ) [.ref (ad 0), .int x1] (w_6 cI cZ ad u) (f_X6_latest u x1) := by
  refine en_p (cc := cX6_latest) (maxL := 2) (ret := (some .int)) (own := RX6) (by decide +kernel) rfl rfl (Nat.le_of_ble_eq_true rfl) ?_
  intro p e s m args below meth c A ls C hr hlk hP hD hS hl
  have hx := C.1
  have hb := C.2.1
  have hl : lv_has ls 2 [(0, .ref (ad 0)), (1, .int x1)] := hl
  refine lv_iload_n hx hb dX6_latest_0 rfl (lv_at hl 1 rfl) ?_
  refine lv_if_ge (tgt := 6) hx hb dX6_latest_1 (by decide) (fun c_1 => ?_) (fun c_1 => ?_)
  · refine lv_aload_n hx hb dX6_latest_6 rfl (lv_at hl 0 rfl) ?_
    refine gt6_0 C hP in_X6_latest_6 ln_X6_latest_1 dX6_latest_7 ?_
    refine lv_iload_n hx hb dX6_latest_10 rfl (lv_at hl 1 rfl) ?_
    refine kv_p C (c_X3_writtenAt l D cI cZ (ad 1) (ad 2) (ad 3) (ad 4) (u 1) x1 ) (cwV 1 C.2.2.2.2.1 gX6_latest_X3_writtenAt rfl rfl rfl hdX3_writtenAt ⟨Nat.le_of_ble_eq_true rfl, Nat.le_of_ble_eq_true rfl⟩) (ci := 3) (q0 := 0) rfl rfl rfl hP hD hS (su_6_1 cI cZ ad u) rfl hl.1 rfl (Nat.le_of_ble_eq_true rfl) dX6_latest_11 ⟨Nat.zero_le _, Nat.zero_le _⟩ (fun H locs hP hS => ?_)
    exact rt_p C hr hlk hS ((if_pos c_1).trans rfl) dX6_latest_14
  · refine lv_iconst (v := (-1)) hx hb dX6_latest_4 (by decide) ?_
    exact rt_p C hr hlk hS ((if_neg c_1).trans rfl) dX6_latest_5
theorem ln_X6_word_1 : Cond.fieldLink RX6 25 "BlockCard" "secret" "LBlockCard$Letters;" ∈ wsX6_word := List.mem_of_getElem? (i := 1) rfl
theorem in_X6_word_6 : ∀ w ∈ wsX60, w ∈ wsX6_word := fun w h => List.mem_cons_of_mem _ (List.mem_append_left _ (List.mem_append_right _ h))
set_option maxHeartbeats 4000000 in
set_option maxRecDepth 100000 in
theorem c_X6_word (l : Launch) (D : va_G) (cI cZ : ClassId) (ad : Nat → Nat) (u : cd_S) (x1 : Int32)  : Ct_p l yX6_word wsX6_word ({ frames := 1, cells := 0, slots := 0, locals := 21 } : Room) D (ct_T cI cZ) [.ref (ad 0), .int x1] (w_6 cI cZ ad u) (f_X6_word u x1) := by
  refine en_p (cc := cX6_word) (maxL := 2) (ret := (some .int)) (own := RX6) (by decide +kernel) rfl rfl (Nat.le_of_ble_eq_true rfl) ?_
  intro p e s m args below meth c A ls C hr hlk hP hD hS hl
  have hx := C.1
  have hb := C.2.1
  have hl : lv_has ls 2 [(0, .ref (ad 0)), (1, .int x1)] := hl
  refine lv_iload_n hx hb dX6_word_0 rfl (lv_at hl 1 rfl) ?_
  refine lv_iconst (v := (-1)) hx hb dX6_word_1 (by decide) ?_
  refine lv_icmp_ge (tgt := 7) hx hb dX6_word_2 (by decide) (fun c_1 => ?_) (fun c_1 => ?_)
  · refine lv_iload_n hx hb dX6_word_7 rfl (lv_at hl 1 rfl) ?_
    refine lv_iconst (v := (-1)) hx hb dX6_word_8 (by decide) ?_
    refine lv_icmp_ne (tgt := 20) hx hb dX6_word_9 (by decide) (fun c_2 => ?_) (fun c_2 => ?_)
    · refine lv_aload_n hx hb dX6_word_20 rfl (lv_at hl 0 rfl) ?_
      refine gt6_2 C hP in_X6_word_6 ln_X6_word_1 dX6_word_21 ?_
      refine lv_iload_n hx hb dX6_word_24 rfl (lv_at hl 1 rfl) ?_
      refine kv_p C (c_X1_at l D cI cZ 8 (ad 7) (ad 8) (u 3) x1 (by decide)) (cwV 1 C.2.2.2.2.1 gX6_word_X1_at rfl rfl rfl hdX1_at ⟨Nat.le_of_ble_eq_true rfl, Nat.le_of_ble_eq_true rfl⟩) (ci := 1) (q0 := 0) rfl rfl rfl hP hD hS (su_6_3 cI cZ ad u) rfl hl.1 rfl (Nat.le_of_ble_eq_true rfl) dX6_word_25 ⟨Nat.zero_le _, Nat.zero_le _⟩ (fun H locs hP hS => ?_)
      exact rt_p C hr hlk hS ((if_pos c_1).trans ((if_neg c_2).trans rfl)) dX6_word_28
    · refine lv_aload_n hx hb dX6_word_12 rfl (lv_at hl 0 rfl) ?_
      refine gt6_2 C hP in_X6_word_6 ln_X6_word_1 dX6_word_13 ?_
      refine kv_p C (c_X1_length l D cI cZ 8 (ad 7) (ad 8) (u 3)  ) (cwV 0 C.2.2.2.2.1 gX6_word_X1_length rfl rfl rfl hdX1_length ⟨Nat.le_of_ble_eq_true rfl, Nat.le_of_ble_eq_true rfl⟩) (ci := 1) (q0 := 0) rfl rfl rfl hP hD hS (su_6_3 cI cZ ad u) rfl hl.1 rfl (Nat.le_of_ble_eq_true rfl) dX6_word_16 ⟨Nat.zero_le _, Nat.zero_le _⟩ (fun H locs hP hS => ?_)
      exact rt_p C hr hlk hS ((if_pos c_1).trans ((if_pos c_2).trans rfl)) dX6_word_19
  · refine lv_iconst (v := (-1)) hx hb dX6_word_5 (by decide) ?_
    exact rt_p C hr hlk hS ((if_neg c_1).trans rfl) dX6_word_6
theorem ln_X6_later_1 : Cond.fieldLink RX6 31 "BlockCard" "queue" "LBlockCard$Queue;" ∈ wsX6_later := List.mem_of_getElem? (i := 1) rfl
theorem in_X6_later_6 : ∀ w ∈ wsX60, w ∈ wsX6_later := fun w h => List.mem_cons_of_mem _ (List.mem_append_left _ (List.mem_append_right _ h))
set_option maxHeartbeats 4000000 in
set_option maxRecDepth 100000 in
theorem c_X6_later (l : Launch) (D : va_G) (cI cZ : ClassId) (ad : Nat → Nat) (u : cd_S) (x1 : Int32) (x2 : Int32)  : Ct_p l yX6_later wsX6_later ({ frames := 1, cells := 0, slots := 0, locals := 22 } : Room) D (ct_T cI cZ) [.ref (ad 0), .int x1, .int x2] (w_6 cI cZ ad u) (f_X6_later u x1 x2) := by
  refine en_p (cc := cX6_later) (maxL := 3) (ret := (some .int)) (own := RX6) (by decide +kernel) rfl rfl (Nat.le_of_ble_eq_true rfl) ?_
  intro p e s m args below meth c A ls C hr hlk hP hD hS hl
  have hx := C.1
  have hb := C.2.1
  have hl : lv_has ls 3 [(0, .ref (ad 0)), (1, .int x1), (2, .int x2)] := hl
  refine lv_iload_n hx hb dX6_later_0 rfl (lv_at hl 1 rfl) ?_
  refine lv_iconst (v := (-1)) hx hb dX6_later_1 (by decide) ?_
  refine lv_icmp_lt (tgt := 14) hx hb dX6_later_2 (by decide) (fun c_1 => ?_) (fun c_1 => ?_)
  · refine lv_iconst (v := (-1)) hx hb dX6_later_14 (by decide) ?_
    exact rt_p C hr hlk hS ((if_pos c_1).trans rfl) dX6_later_15
  · refine lv_iload_n hx hb dX6_later_5 rfl (lv_at hl 2 rfl) ?_
    refine lv_iconst (v := 0) hx hb dX6_later_6 (by decide) ?_
    refine lv_iconst (v := 2) hx hb dX6_later_7 (by decide) ?_
    refine ks_p C (c_X6_isOutside l D cI cZ x2 0 2 ) (va_cwS 3 C.2.2.2.2.1 gX6_later_X6_isOutside rfl rfl rfl hdX6_isOutside ⟨Nat.le_of_ble_eq_true rfl, Nat.le_of_ble_eq_true rfl⟩) hP hD hS rfl hl.1 rfl (Nat.le_of_ble_eq_true rfl) dX6_later_8 ⟨Nat.zero_le _, Nat.zero_le _⟩ (fun H locs hP hS => ?_)
    refine lv_if_eq (tgt := 16) hx hb dX6_later_11 (by decide) (fun c_2 => ?_) (fun c_2 => ?_)
    · refine lv_iload_n hx hb dX6_later_16 rfl (lv_at hl 1 rfl) ?_
      refine lv_iconst (v := (-1)) hx hb dX6_later_17 (by decide) ?_
      refine lv_icmp_ne (tgt := 29) hx hb dX6_later_18 (by decide) (fun c_3 => ?_) (fun c_3 => ?_)
      · refine lv_aload_n hx hb dX6_later_29 rfl (lv_at hl 0 rfl) ?_
        refine gt6_3 C hP in_X6_later_6 ln_X6_later_1 dX6_later_30 ?_
        refine lv_iload_n hx hb dX6_later_33 rfl (lv_at hl 1 rfl) ?_
        refine lv_iload_n hx hb dX6_later_34 rfl (lv_at hl 2 rfl) ?_
        refine kv_p C (c_X4_tellOf l D cI cZ (ad 9) (ad 10) (ad 11) (u 4) x1 x2 ) (cwV 2 C.2.2.2.2.1 gX6_later_X4_tellOf rfl rfl rfl hdX4_tellOf ⟨Nat.le_of_ble_eq_true rfl, Nat.le_of_ble_eq_true rfl⟩) (ci := 4) (q0 := 0) rfl rfl rfl hP hD hS (su_6_4 cI cZ ad u) rfl hl.1 rfl (Nat.le_of_ble_eq_true rfl) dX6_later_35 ⟨Nat.zero_le _, Nat.zero_le _⟩ (fun H locs hP hS => ?_)
        exact rt_p C hr hlk hS ((if_neg c_1).trans ((if_pos c_2).trans ((if_neg c_3).trans rfl))) dX6_later_38
      · refine lv_aload_n hx hb dX6_later_21 rfl (lv_at hl 0 rfl) ?_
        refine gt6_3 C hP in_X6_later_6 ln_X6_later_1 dX6_later_22 ?_
        refine kv_p C (c_X4_size l D cI cZ (ad 9) (ad 10) (ad 11) (u 4)  ) (cwV 0 C.2.2.2.2.1 gX6_later_X4_size rfl rfl rfl hdX4_size ⟨Nat.le_of_ble_eq_true rfl, Nat.le_of_ble_eq_true rfl⟩) (ci := 4) (q0 := 0) rfl rfl rfl hP hD hS (su_6_4 cI cZ ad u) rfl hl.1 rfl (Nat.le_of_ble_eq_true rfl) dX6_later_25 ⟨Nat.zero_le _, Nat.zero_le _⟩ (fun H locs hP hS => ?_)
        exact rt_p C hr hlk hS ((if_neg c_1).trans ((if_pos c_2).trans ((if_pos c_3).trans rfl))) dX6_later_28
    · refine lv_iconst (v := (-1)) hx hb dX6_later_14 (by decide) ?_
      exact rt_p C hr hlk hS ((if_neg c_1).trans ((if_neg c_2).trans rfl)) dX6_later_15
theorem ln_X6_count_1 : Cond.fieldLink RX6 10 "BlockCard" "memory" "LBlockCard$Memory;" ∈ wsX6_count := List.mem_of_getElem? (i := 1) rfl
theorem in_X6_count_6 : ∀ w ∈ wsX60, w ∈ wsX6_count := fun w h => List.mem_cons_of_mem _ (List.mem_append_left _ (List.mem_append_left _ (List.mem_append_left _ (List.mem_append_left _ (List.mem_append_left _ (List.mem_append_right _ h))))))
theorem ln_X6_count_2 : Cond.fieldLink RX6 111 "BlockCard" "state" "I" ∈ wsX6_count := List.mem_of_getElem? (i := 2) rfl
theorem ln_X6_count_3 : Cond.fieldLink RX6 185 "BlockCard" "address" "I" ∈ wsX6_count := List.mem_of_getElem? (i := 3) rfl
theorem ln_X6_count_4 : Cond.fieldLink RX6 52 "BlockCard" "link" "LBlockCard$Link;" ∈ wsX6_count := List.mem_of_getElem? (i := 4) rfl
theorem ln_X6_count_5 : Cond.fieldLink RX6 197 "BlockCard" "locked" "Z" ∈ wsX6_count := List.mem_of_getElem? (i := 5) rfl
theorem ln_X6_count_6 : Cond.fieldLink RX6 201 "BlockCard" "notes" "I" ∈ wsX6_count := List.mem_of_getElem? (i := 6) rfl
theorem ln_X6_count_7 : Cond.fieldLink RX6 204 "BlockCard" "well" "I" ∈ wsX6_count := List.mem_of_getElem? (i := 7) rfl
theorem ln_X6_count_8 : Cond.fieldLink RX6 38 "BlockCard" "eraser" "LBlockCard$Eraser;" ∈ wsX6_count := List.mem_of_getElem? (i := 8) rfl
theorem ln_X6_count_9 : Cond.fieldLink RX6 153 "BlockCard" "ticks" "I" ∈ wsX6_count := List.mem_of_getElem? (i := 9) rfl
theorem ln_X6_count_10 : Cond.fieldLink RX6 78 "BlockCard" "heat" "I" ∈ wsX6_count := List.mem_of_getElem? (i := 10) rfl
theorem ln_X6_count_11 : Cond.fieldLink RX6 21 "BlockCard" "text" "LBlockCard$Letters;" ∈ wsX6_count := List.mem_of_getElem? (i := 11) rfl
theorem ln_X6_count_12 : Cond.fieldLink RX6 45 "BlockCard" "stream" "LBlockCard$Stream;" ∈ wsX6_count := List.mem_of_getElem? (i := 12) rfl
set_option maxHeartbeats 4000000 in
set_option maxRecDepth 100000 in
theorem c_X6_count (l : Launch) (D : va_G) (cI cZ : ClassId) (ad : Nat → Nat) (u : cd_S) (x1 : Int32) (hz : ((u 1).1 4).toInt ≤ 64) (hz3 : (u 6).1 3 = 0 ∨ (u 6).1 3 = 1) : Ct_p l yX6_count wsX6_count ({ frames := 3, cells := 0, slots := 0, locals := 64 } : Room) D (ct_T cI cZ) [.ref (ad 0), .int x1] (w_6 cI cZ ad u) (f_X6_count u x1) := by
  refine en_p (cc := cX6_count) (maxL := 2) (ret := (some .int)) (own := RX6) (by decide +kernel) rfl rfl (Nat.le_of_ble_eq_true rfl) ?_
  intro p e s m args below meth c A ls C hr hlk hP hD hS hl
  have hx := C.1
  have hb := C.2.1
  have hl : lv_has ls 2 [(0, .ref (ad 0)), (1, .int x1)] := hl
  refine lv_iload_n hx hb dX6_count_0 rfl (lv_at hl 1 rfl) ?_
  by_cases s_1 : x1 = 0
  · refine lv_tableIn (tgt := 92) hx hb dX6_count_1 (by rw [s_1]; decide) (by rw [s_1]; decide) (by rw [s_1]; rfl) (by decide) ?_
    refine lv_aload_n hx hb dX6_count_92 rfl (lv_at hl 0 rfl) ?_
    refine gt6_0 C hP in_X6_count_6 ln_X6_count_1 dX6_count_93 ?_
    refine kv_p C (c_X3_size l D cI cZ (ad 1) (ad 2) (ad 3) (ad 4) (u 1)  ) (cwV 0 C.2.2.2.2.1 gX6_count_X3_size rfl rfl rfl hdX3_size ⟨Nat.le_of_ble_eq_true rfl, Nat.le_of_ble_eq_true rfl⟩) (ci := 3) (q0 := 0) rfl rfl rfl hP hD hS (su_6_1 cI cZ ad u) rfl hl.1 rfl (Nat.le_of_ble_eq_true rfl) dX6_count_96 ⟨Nat.zero_le _, Nat.zero_le _⟩ (fun H locs hP hS => ?_)
    exact rt_p C hr hlk hS ((if_pos s_1).trans rfl) dX6_count_99
  by_cases s_2 : x1 = 1
  · refine lv_tableIn (tgt := 100) hx hb dX6_count_1 (by rw [s_2]; decide) (by rw [s_2]; decide) (by rw [s_2]; rfl) (by decide) ?_
    refine lv_aload_n hx hb dX6_count_100 rfl (lv_at hl 0 rfl) ?_
    refine gt6_0 C hP in_X6_count_6 ln_X6_count_1 dX6_count_101 ?_
    refine kv_p C (c_X3_groupSize l D cI cZ (ad 1) (ad 2) (ad 3) (ad 4) (u 1)  ) (cwV 0 C.2.2.2.2.1 gX6_count_X3_groupSize rfl rfl rfl hdX3_groupSize ⟨Nat.le_of_ble_eq_true rfl, Nat.le_of_ble_eq_true rfl⟩) (ci := 3) (q0 := 0) rfl rfl rfl hP hD hS (su_6_1 cI cZ ad u) rfl hl.1 rfl (Nat.le_of_ble_eq_true rfl) dX6_count_104 ⟨Nat.zero_le _, Nat.zero_le _⟩ (fun H locs hP hS => ?_)
    exact rt_p C hr hlk hS ((if_neg s_1).trans ((if_pos s_2).trans rfl)) dX6_count_107
  by_cases s_3 : x1 = 2
  · refine lv_tableIn (tgt := 108) hx hb dX6_count_1 (by rw [s_3]; decide) (by rw [s_3]; decide) (by rw [s_3]; rfl) (by decide) ?_
    refine lv_aload_n hx hb dX6_count_108 rfl (lv_at hl 0 rfl) ?_
    refine kv_p C (c_X6_isPowered l D cI cZ ad u  ) (cwV 0 C.2.2.2.2.1 gX6_count_X6_isPowered rfl rfl rfl hdX6_isPowered ⟨Nat.le_of_ble_eq_true rfl, Nat.le_of_ble_eq_true rfl⟩) (ci := 6) (q0 := 0) rfl rfl rfl hP hD hS (su_self _) rfl hl.1 rfl (Nat.le_of_ble_eq_true rfl) dX6_count_109 ⟨Nat.zero_le _, Nat.zero_le _⟩ (fun H locs hP hS => ?_)
    refine lv_if_eq (tgt := 122) hx hb dX6_count_112 (by decide) (fun c_4 => ?_) (fun c_4 => ?_)
    · refine lv_bipush (v := (-4)) hx hb dX6_count_122 (by decide) ?_
      exact rt_p C hr hlk hS ((if_neg s_1).trans ((if_neg s_2).trans ((if_pos s_3).trans ((if_pos c_4).trans rfl)))) dX6_count_124
    · refine lv_aload_n hx hb dX6_count_115 rfl (lv_at hl 0 rfl) ?_
      refine gt6_12 C hP in_X6_count_6 ln_X6_count_2 (v := ((u 0).1 12)) rfl dX6_count_116 ?_
      refine lv_goto (tgt := 124) hx hb dX6_count_119 (by decide) ?_
      exact rt_p C hr hlk hS ((if_neg s_1).trans ((if_neg s_2).trans ((if_pos s_3).trans ((if_neg c_4).trans rfl)))) dX6_count_124
  by_cases s_5 : x1 = 3
  · refine lv_tableIn (tgt := 125) hx hb dX6_count_1 (by rw [s_5]; decide) (by rw [s_5]; decide) (by rw [s_5]; rfl) (by decide) ?_
    refine lv_aload_n hx hb dX6_count_125 rfl (lv_at hl 0 rfl) ?_
    refine gt6_13 C hP in_X6_count_6 ln_X6_count_3 (v := ((u 0).1 13)) rfl dX6_count_126 ?_
    exact rt_p C hr hlk hS ((if_neg s_1).trans ((if_neg s_2).trans ((if_neg s_3).trans ((if_pos s_5).trans rfl)))) dX6_count_129
  by_cases s_6 : x1 = 4
  · refine lv_tableIn (tgt := 130) hx hb dX6_count_1 (by rw [s_6]; decide) (by rw [s_6]; decide) (by rw [s_6]; rfl) (by decide) ?_
    refine lv_aload_n hx hb dX6_count_130 rfl (lv_at hl 0 rfl) ?_
    refine gt6_6 C hP in_X6_count_6 ln_X6_count_4 dX6_count_131 ?_
    refine kv_p C (c_X2_lines l D cI cZ (ad 14) (u 7)  ) (cwV 0 C.2.2.2.2.1 gX6_count_X2_lines rfl rfl rfl hdX2_lines ⟨Nat.le_of_ble_eq_true rfl, Nat.le_of_ble_eq_true rfl⟩) (ci := 2) (q0 := 0) rfl rfl rfl hP hD hS (su_6_7 cI cZ ad u) rfl hl.1 rfl (Nat.le_of_ble_eq_true rfl) dX6_count_134 ⟨Nat.zero_le _, Nat.zero_le _⟩ (fun H locs hP hS => ?_)
    exact rt_p C hr hlk hS ((if_neg s_1).trans ((if_neg s_2).trans ((if_neg s_3).trans ((if_neg s_5).trans ((if_pos s_6).trans rfl))))) dX6_count_137
  by_cases s_7 : x1 = 5
  · refine lv_tableIn (tgt := 138) hx hb dX6_count_1 (by rw [s_7]; decide) (by rw [s_7]; decide) (by rw [s_7]; rfl) (by decide) ?_
    refine lv_aload_n hx hb dX6_count_138 rfl (lv_at hl 0 rfl) ?_
    refine gt6_6 C hP in_X6_count_6 ln_X6_count_4 dX6_count_139 ?_
    refine kv_p C (c_X2_speed l D cI cZ (ad 14) (u 7)  ) (cwV 0 C.2.2.2.2.1 gX6_count_X2_speed rfl rfl rfl hdX2_speed ⟨Nat.le_of_ble_eq_true rfl, Nat.le_of_ble_eq_true rfl⟩) (ci := 2) (q0 := 0) rfl rfl rfl hP hD hS (su_6_7 cI cZ ad u) rfl hl.1 rfl (Nat.le_of_ble_eq_true rfl) dX6_count_142 ⟨Nat.zero_le _, Nat.zero_le _⟩ (fun H locs hP hS => ?_)
    exact rt_p C hr hlk hS ((if_neg s_1).trans ((if_neg s_2).trans ((if_neg s_3).trans ((if_neg s_5).trans ((if_neg s_6).trans ((if_pos s_7).trans rfl)))))) dX6_count_145
  by_cases s_8 : x1 = 6
  · refine lv_tableIn (tgt := 146) hx hb dX6_count_1 (by rw [s_8]; decide) (by rw [s_8]; decide) (by rw [s_8]; rfl) (by decide) ?_
    refine lv_aload_n hx hb dX6_count_146 rfl (lv_at hl 0 rfl) ?_
    refine gt6_6 C hP in_X6_count_6 ln_X6_count_4 dX6_count_147 ?_
    refine kv_p C (c_X2_point l D cI cZ (ad 14) (u 7)  ) (cwV 0 C.2.2.2.2.1 gX6_count_X2_point rfl rfl rfl hdX2_point ⟨Nat.le_of_ble_eq_true rfl, Nat.le_of_ble_eq_true rfl⟩) (ci := 2) (q0 := 0) rfl rfl rfl hP hD hS (su_6_7 cI cZ ad u) rfl hl.1 rfl (Nat.le_of_ble_eq_true rfl) dX6_count_150 ⟨Nat.zero_le _, Nat.zero_le _⟩ (fun H locs hP hS => ?_)
    exact rt_p C hr hlk hS ((if_neg s_1).trans ((if_neg s_2).trans ((if_neg s_3).trans ((if_neg s_5).trans ((if_neg s_6).trans ((if_neg s_7).trans ((if_pos s_8).trans rfl))))))) dX6_count_153
  by_cases s_9 : x1 = 7
  · refine lv_tableIn (tgt := 154) hx hb dX6_count_1 (by rw [s_9]; decide) (by rw [s_9]; decide) (by rw [s_9]; rfl) (by decide) ?_
    refine lv_aload_n hx hb dX6_count_154 rfl (lv_at hl 0 rfl) ?_
    refine gt6_16 C hP in_X6_count_6 ln_X6_count_5 (v := ((u 0).1 16)) rfl dX6_count_155 ?_
    refine ks_p C (c_X6_asNumber l D cI cZ ((u 0).1 16) ) (va_cwS 1 C.2.2.2.2.1 gX6_count_X6_asNumber rfl rfl rfl hdX6_asNumber ⟨Nat.le_of_ble_eq_true rfl, Nat.le_of_ble_eq_true rfl⟩) hP hD hS rfl hl.1 rfl (Nat.le_of_ble_eq_true rfl) dX6_count_158 ⟨Nat.zero_le _, Nat.zero_le _⟩ (fun H locs hP hS => ?_)
    exact rt_p C hr hlk hS ((if_neg s_1).trans ((if_neg s_2).trans ((if_neg s_3).trans ((if_neg s_5).trans ((if_neg s_6).trans ((if_neg s_7).trans ((if_neg s_8).trans ((if_pos s_9).trans rfl)))))))) dX6_count_161
  by_cases s_10 : x1 = 8
  · refine lv_tableIn (tgt := 162) hx hb dX6_count_1 (by rw [s_10]; decide) (by rw [s_10]; decide) (by rw [s_10]; rfl) (by decide) ?_
    refine lv_aload_n hx hb dX6_count_162 rfl (lv_at hl 0 rfl) ?_
    refine gt6_14 C hP in_X6_count_6 ln_X6_count_6 (v := ((u 0).1 14)) rfl dX6_count_163 ?_
    exact rt_p C hr hlk hS ((if_neg s_1).trans ((if_neg s_2).trans ((if_neg s_3).trans ((if_neg s_5).trans ((if_neg s_6).trans ((if_neg s_7).trans ((if_neg s_8).trans ((if_neg s_9).trans ((if_pos s_10).trans rfl))))))))) dX6_count_166
  by_cases s_11 : x1 = 9
  · refine lv_tableIn (tgt := 167) hx hb dX6_count_1 (by rw [s_11]; decide) (by rw [s_11]; decide) (by rw [s_11]; rfl) (by decide) ?_
    refine lv_aload_n hx hb dX6_count_167 rfl (lv_at hl 0 rfl) ?_
    refine gt6_9 C hP in_X6_count_6 ln_X6_count_7 (v := ((u 0).1 9)) rfl dX6_count_168 ?_
    exact rt_p C hr hlk hS ((if_neg s_1).trans ((if_neg s_2).trans ((if_neg s_3).trans ((if_neg s_5).trans ((if_neg s_6).trans ((if_neg s_7).trans ((if_neg s_8).trans ((if_neg s_9).trans ((if_neg s_10).trans ((if_pos s_11).trans rfl)))))))))) dX6_count_171
  by_cases s_12 : x1 = 10
  · refine lv_tableIn (tgt := 172) hx hb dX6_count_1 (by rw [s_12]; decide) (by rw [s_12]; decide) (by rw [s_12]; rfl) (by decide) ?_
    refine lv_aload_n hx hb dX6_count_172 rfl (lv_at hl 0 rfl) ?_
    refine gt6_4 C hP in_X6_count_6 ln_X6_count_8 dX6_count_173 ?_
    refine kv_p C (c_X0_groupsLeft l D cI cZ (ad 12) (u 5)  ) (cwV 0 C.2.2.2.2.1 gX6_count_X0_groupsLeft rfl rfl rfl hdX0_groupsLeft ⟨Nat.le_of_ble_eq_true rfl, Nat.le_of_ble_eq_true rfl⟩) (ci := 0) (q0 := 0) rfl rfl rfl hP hD hS (su_6_5 cI cZ ad u) rfl hl.1 rfl (Nat.le_of_ble_eq_true rfl) dX6_count_176 ⟨Nat.zero_le _, Nat.zero_le _⟩ (fun H locs hP hS => ?_)
    exact rt_p C hr hlk hS ((if_neg s_1).trans ((if_neg s_2).trans ((if_neg s_3).trans ((if_neg s_5).trans ((if_neg s_6).trans ((if_neg s_7).trans ((if_neg s_8).trans ((if_neg s_9).trans ((if_neg s_10).trans ((if_neg s_11).trans ((if_pos s_12).trans rfl))))))))))) dX6_count_179
  by_cases s_13 : x1 = 11
  · refine lv_tableIn (tgt := 180) hx hb dX6_count_1 (by rw [s_13]; decide) (by rw [s_13]; decide) (by rw [s_13]; rfl) (by decide) ?_
    refine lv_aload_n hx hb dX6_count_180 rfl (lv_at hl 0 rfl) ?_
    refine gt6_0 C hP in_X6_count_6 ln_X6_count_1 dX6_count_181 ?_
    refine kv_p C (c_X3_tornBlocks l D cI cZ (ad 1) (ad 2) (ad 3) (ad 4) (u 1)  hz) (cwV 0 C.2.2.2.2.1 gX6_count_X3_tornBlocks rfl rfl rfl hdX3_tornBlocks ⟨Nat.le_of_ble_eq_true rfl, Nat.le_of_ble_eq_true rfl⟩) (ci := 3) (q0 := 0) rfl rfl rfl hP hD hS (su_6_1 cI cZ ad u) rfl hl.1 rfl (Nat.le_of_ble_eq_true rfl) dX6_count_184 ⟨Nat.zero_le _, Nat.zero_le _⟩ (fun H locs hP hS => ?_)
    exact rt_p C hr hlk hS ((if_neg s_1).trans ((if_neg s_2).trans ((if_neg s_3).trans ((if_neg s_5).trans ((if_neg s_6).trans ((if_neg s_7).trans ((if_neg s_8).trans ((if_neg s_9).trans ((if_neg s_10).trans ((if_neg s_11).trans ((if_neg s_12).trans ((if_pos s_13).trans rfl)))))))))))) dX6_count_187
  by_cases s_14 : x1 = 12
  · refine lv_tableIn (tgt := 188) hx hb dX6_count_1 (by rw [s_14]; decide) (by rw [s_14]; decide) (by rw [s_14]; rfl) (by decide) ?_
    refine lv_aload_n hx hb dX6_count_188 rfl (lv_at hl 0 rfl) ?_
    refine gt6_10 C hP in_X6_count_6 ln_X6_count_9 (v := ((u 0).1 10)) rfl dX6_count_189 ?_
    exact rt_p C hr hlk hS ((if_neg s_1).trans ((if_neg s_2).trans ((if_neg s_3).trans ((if_neg s_5).trans ((if_neg s_6).trans ((if_neg s_7).trans ((if_neg s_8).trans ((if_neg s_9).trans ((if_neg s_10).trans ((if_neg s_11).trans ((if_neg s_12).trans ((if_neg s_13).trans ((if_pos s_14).trans rfl))))))))))))) dX6_count_192
  by_cases s_15 : x1 = 13
  · refine lv_tableIn (tgt := 193) hx hb dX6_count_1 (by rw [s_15]; decide) (by rw [s_15]; decide) (by rw [s_15]; rfl) (by decide) ?_
    refine lv_aload_n hx hb dX6_count_193 rfl (lv_at hl 0 rfl) ?_
    refine gt6_11 C hP in_X6_count_6 ln_X6_count_10 (v := ((u 0).1 11)) rfl dX6_count_194 ?_
    exact rt_p C hr hlk hS ((if_neg s_1).trans ((if_neg s_2).trans ((if_neg s_3).trans ((if_neg s_5).trans ((if_neg s_6).trans ((if_neg s_7).trans ((if_neg s_8).trans ((if_neg s_9).trans ((if_neg s_10).trans ((if_neg s_11).trans ((if_neg s_12).trans ((if_neg s_13).trans ((if_neg s_14).trans ((if_pos s_15).trans rfl)))))))))))))) dX6_count_197
  by_cases s_16 : x1 = 14
  · refine lv_tableIn (tgt := 198) hx hb dX6_count_1 (by rw [s_16]; decide) (by rw [s_16]; decide) (by rw [s_16]; rfl) (by decide) ?_
    refine lv_aload_n hx hb dX6_count_198 rfl (lv_at hl 0 rfl) ?_
    refine gt6_1 C hP in_X6_count_6 ln_X6_count_11 dX6_count_199 ?_
    refine kv_p C (c_X1_length l D cI cZ 200 (ad 5) (ad 6) (u 2)  ) (cwV 0 C.2.2.2.2.1 gX6_count_X1_length rfl rfl rfl hdX1_length ⟨Nat.le_of_ble_eq_true rfl, Nat.le_of_ble_eq_true rfl⟩) (ci := 1) (q0 := 0) rfl rfl rfl hP hD hS (su_6_2 cI cZ ad u) rfl hl.1 rfl (Nat.le_of_ble_eq_true rfl) dX6_count_202 ⟨Nat.zero_le _, Nat.zero_le _⟩ (fun H locs hP hS => ?_)
    exact rt_p C hr hlk hS ((if_neg s_1).trans ((if_neg s_2).trans ((if_neg s_3).trans ((if_neg s_5).trans ((if_neg s_6).trans ((if_neg s_7).trans ((if_neg s_8).trans ((if_neg s_9).trans ((if_neg s_10).trans ((if_neg s_11).trans ((if_neg s_12).trans ((if_neg s_13).trans ((if_neg s_14).trans ((if_neg s_15).trans ((if_pos s_16).trans rfl))))))))))))))) dX6_count_205
  by_cases s_17 : x1 = 15
  · refine lv_tableIn (tgt := 206) hx hb dX6_count_1 (by rw [s_17]; decide) (by rw [s_17]; decide) (by rw [s_17]; rfl) (by decide) ?_
    refine lv_aload_n hx hb dX6_count_206 rfl (lv_at hl 0 rfl) ?_
    refine kv_p C (c_X6_isStreaming l D cI cZ ad u  ) (cwV 0 C.2.2.2.2.1 gX6_count_X6_isStreaming rfl rfl rfl hdX6_isStreaming ⟨Nat.le_of_ble_eq_true rfl, Nat.le_of_ble_eq_true rfl⟩) (ci := 6) (q0 := 0) rfl rfl rfl hP hD hS (su_self _) rfl hl.1 rfl (Nat.le_of_ble_eq_true rfl) dX6_count_207 ⟨Nat.zero_le _, Nat.zero_le _⟩ (fun H locs hP hS => ?_)
    refine lv_if_eq (tgt := 240) hx hb dX6_count_210 (by decide) (fun c_18 => ?_) (fun c_18 => ?_)
    · refine lv_bipush (v := (-4)) hx hb dX6_count_240 (by decide) ?_
      exact rt_p C hr hlk hS ((if_neg s_1).trans ((if_neg s_2).trans ((if_neg s_3).trans ((if_neg s_5).trans ((if_neg s_6).trans ((if_neg s_7).trans ((if_neg s_8).trans ((if_neg s_9).trans ((if_neg s_10).trans ((if_neg s_11).trans ((if_neg s_12).trans ((if_neg s_13).trans ((if_neg s_14).trans ((if_neg s_15).trans ((if_neg s_16).trans ((if_pos s_17).trans ((if_pos c_18).trans rfl))))))))))))))))) dX6_count_242
    · refine lv_aload_n hx hb dX6_count_213 rfl (lv_at hl 0 rfl) ?_
      refine gt6_0 C hP in_X6_count_6 ln_X6_count_1 dX6_count_214 ?_
      refine lv_aload_n hx hb dX6_count_217 rfl (lv_at hl 0 rfl) ?_
      refine gt6_5 C hP in_X6_count_6 ln_X6_count_12 dX6_count_218 ?_
      refine kv_p C (c_X5_next l D cI cZ (ad 13) (u 6)  ) (cwV 0 C.2.2.2.2.1 gX6_count_X5_next rfl rfl rfl hdX5_next ⟨Nat.le_of_ble_eq_true rfl, Nat.le_of_ble_eq_true rfl⟩) (ci := 5) (q0 := 0) rfl rfl rfl hP hD hS (su_6_6 cI cZ ad u) rfl hl.1 rfl (Nat.le_of_ble_eq_true rfl) dX6_count_221 ⟨Nat.zero_le _, Nat.zero_le _⟩ (fun H locs hP hS => ?_)
      refine kv_p C (c_X3_has l D cI cZ (ad 1) (ad 2) (ad 3) (ad 4) (u 1) (f_X5_next (u 6)) ) (cwV 1 C.2.2.2.2.1 gX6_count_X3_has rfl rfl rfl hdX3_has ⟨Nat.le_of_ble_eq_true rfl, Nat.le_of_ble_eq_true rfl⟩) (ci := 3) (q0 := 0) rfl rfl rfl hP hD hS (su_6_1 cI cZ ad u) rfl hl.1 rfl (Nat.le_of_ble_eq_true rfl) dX6_count_224 ⟨Nat.zero_le _, Nat.zero_le _⟩ (fun H locs hP hS => ?_)
      refine lv_if_eq (tgt := 240) hx hb dX6_count_227 (by decide) (fun c_19 => ?_) (fun c_19 => ?_)
      · refine lv_bipush (v := (-4)) hx hb dX6_count_240 (by decide) ?_
        exact rt_p C hr hlk hS ((if_neg s_1).trans ((if_neg s_2).trans ((if_neg s_3).trans ((if_neg s_5).trans ((if_neg s_6).trans ((if_neg s_7).trans ((if_neg s_8).trans ((if_neg s_9).trans ((if_neg s_10).trans ((if_neg s_11).trans ((if_neg s_12).trans ((if_neg s_13).trans ((if_neg s_14).trans ((if_neg s_15).trans ((if_neg s_16).trans ((if_pos s_17).trans ((if_neg c_18).trans ((if_pos c_19).trans rfl)))))))))))))))))) dX6_count_242
      · refine lv_aload_n hx hb dX6_count_230 rfl (lv_at hl 0 rfl) ?_
        refine gt6_5 C hP in_X6_count_6 ln_X6_count_12 dX6_count_231 ?_
        refine kv_p C (c_X5_next l D cI cZ (ad 13) (u 6)  ) (cwV 0 C.2.2.2.2.1 gX6_count_X5_next rfl rfl rfl hdX5_next ⟨Nat.le_of_ble_eq_true rfl, Nat.le_of_ble_eq_true rfl⟩) (ci := 5) (q0 := 0) rfl rfl rfl hP hD hS (su_6_6 cI cZ ad u) rfl hl.1 rfl (Nat.le_of_ble_eq_true rfl) dX6_count_234 ⟨Nat.zero_le _, Nat.zero_le _⟩ (fun H locs hP hS => ?_)
        refine lv_goto (tgt := 242) hx hb dX6_count_237 (by decide) ?_
        exact rt_p C hr hlk hS ((if_neg s_1).trans ((if_neg s_2).trans ((if_neg s_3).trans ((if_neg s_5).trans ((if_neg s_6).trans ((if_neg s_7).trans ((if_neg s_8).trans ((if_neg s_9).trans ((if_neg s_10).trans ((if_neg s_11).trans ((if_neg s_12).trans ((if_neg s_13).trans ((if_neg s_14).trans ((if_neg s_15).trans ((if_neg s_16).trans ((if_pos s_17).trans ((if_neg c_18).trans ((if_neg c_19).trans rfl)))))))))))))))))) dX6_count_242
  by_cases s_20 : x1 = 16
  · refine lv_tableIn (tgt := 243) hx hb dX6_count_1 (by rw [s_20]; decide) (by rw [s_20]; decide) (by rw [s_20]; rfl) (by decide) ?_
    refine lv_aload_n hx hb dX6_count_243 rfl (lv_at hl 0 rfl) ?_
    refine kv_p C (c_X6_isStreaming l D cI cZ ad u  ) (cwV 0 C.2.2.2.2.1 gX6_count_X6_isStreaming rfl rfl rfl hdX6_isStreaming ⟨Nat.le_of_ble_eq_true rfl, Nat.le_of_ble_eq_true rfl⟩) (ci := 6) (q0 := 0) rfl rfl rfl hP hD hS (su_self _) rfl hl.1 rfl (Nat.le_of_ble_eq_true rfl) dX6_count_244 ⟨Nat.zero_le _, Nat.zero_le _⟩ (fun H locs hP hS => ?_)
    refine lv_if_eq (tgt := 270) hx hb dX6_count_247 (by decide) (fun c_21 => ?_) (fun c_21 => ?_)
    · refine lv_bipush (v := (-4)) hx hb dX6_count_270 (by decide) ?_
      exact rt_p C hr hlk hS ((if_neg s_1).trans ((if_neg s_2).trans ((if_neg s_3).trans ((if_neg s_5).trans ((if_neg s_6).trans ((if_neg s_7).trans ((if_neg s_8).trans ((if_neg s_9).trans ((if_neg s_10).trans ((if_neg s_11).trans ((if_neg s_12).trans ((if_neg s_13).trans ((if_neg s_14).trans ((if_neg s_15).trans ((if_neg s_16).trans ((if_neg s_17).trans ((if_pos s_20).trans ((if_pos c_21).trans rfl)))))))))))))))))) dX6_count_272
    · refine lv_aload_n hx hb dX6_count_250 rfl (lv_at hl 0 rfl) ?_
      refine gt6_5 C hP in_X6_count_6 ln_X6_count_12 dX6_count_251 ?_
      refine kv_p C (c_X5_isCounted l D cI cZ (ad 13) (u 6)  hz3) (cwV 0 C.2.2.2.2.1 gX6_count_X5_isCounted rfl rfl rfl hdX5_isCounted ⟨Nat.le_of_ble_eq_true rfl, Nat.le_of_ble_eq_true rfl⟩) (ci := 5) (q0 := 0) rfl rfl rfl hP hD hS (su_6_6 cI cZ ad u) rfl hl.1 rfl (Nat.le_of_ble_eq_true rfl) dX6_count_254 ⟨Nat.zero_le _, Nat.zero_le _⟩ (fun H locs hP hS => ?_)
      refine lv_if_eq (tgt := 270) hx hb dX6_count_257 (by decide) (fun c_22 => ?_) (fun c_22 => ?_)
      · refine lv_bipush (v := (-4)) hx hb dX6_count_270 (by decide) ?_
        exact rt_p C hr hlk hS ((if_neg s_1).trans ((if_neg s_2).trans ((if_neg s_3).trans ((if_neg s_5).trans ((if_neg s_6).trans ((if_neg s_7).trans ((if_neg s_8).trans ((if_neg s_9).trans ((if_neg s_10).trans ((if_neg s_11).trans ((if_neg s_12).trans ((if_neg s_13).trans ((if_neg s_14).trans ((if_neg s_15).trans ((if_neg s_16).trans ((if_neg s_17).trans ((if_pos s_20).trans ((if_neg c_21).trans ((if_pos c_22).trans rfl))))))))))))))))))) dX6_count_272
      · refine lv_aload_n hx hb dX6_count_260 rfl (lv_at hl 0 rfl) ?_
        refine gt6_5 C hP in_X6_count_6 ln_X6_count_12 dX6_count_261 ?_
        refine kv_p C (c_X5_left l D cI cZ (ad 13) (u 6)  ) (cwV 0 C.2.2.2.2.1 gX6_count_X5_left rfl rfl rfl hdX5_left ⟨Nat.le_of_ble_eq_true rfl, Nat.le_of_ble_eq_true rfl⟩) (ci := 5) (q0 := 0) rfl rfl rfl hP hD hS (su_6_6 cI cZ ad u) rfl hl.1 rfl (Nat.le_of_ble_eq_true rfl) dX6_count_264 ⟨Nat.zero_le _, Nat.zero_le _⟩ (fun H locs hP hS => ?_)
        refine lv_goto (tgt := 272) hx hb dX6_count_267 (by decide) ?_
        exact rt_p C hr hlk hS ((if_neg s_1).trans ((if_neg s_2).trans ((if_neg s_3).trans ((if_neg s_5).trans ((if_neg s_6).trans ((if_neg s_7).trans ((if_neg s_8).trans ((if_neg s_9).trans ((if_neg s_10).trans ((if_neg s_11).trans ((if_neg s_12).trans ((if_neg s_13).trans ((if_neg s_14).trans ((if_neg s_15).trans ((if_neg s_16).trans ((if_neg s_17).trans ((if_pos s_20).trans ((if_neg c_21).trans ((if_neg c_22).trans rfl))))))))))))))))))) dX6_count_272
  by_cases s_23 : x1 = 17
  · refine lv_tableIn (tgt := 273) hx hb dX6_count_1 (by rw [s_23]; decide) (by rw [s_23]; decide) (by rw [s_23]; rfl) (by decide) ?_
    refine lv_aload_n hx hb dX6_count_273 rfl (lv_at hl 0 rfl) ?_
    refine gt6_0 C hP in_X6_count_6 ln_X6_count_1 dX6_count_274 ?_
    refine kv_p C (c_X3_filledBlocks l D cI cZ (ad 1) (ad 2) (ad 3) (ad 4) (u 1)  hz) (cwV 0 C.2.2.2.2.1 gX6_count_X3_filledBlocks rfl rfl rfl hdX3_filledBlocks ⟨Nat.le_of_ble_eq_true rfl, Nat.le_of_ble_eq_true rfl⟩) (ci := 3) (q0 := 0) rfl rfl rfl hP hD hS (su_6_1 cI cZ ad u) rfl hl.1 rfl (Nat.le_of_ble_eq_true rfl) dX6_count_277 ⟨Nat.zero_le _, Nat.zero_le _⟩ (fun H locs hP hS => ?_)
    exact rt_p C hr hlk hS ((if_neg s_1).trans ((if_neg s_2).trans ((if_neg s_3).trans ((if_neg s_5).trans ((if_neg s_6).trans ((if_neg s_7).trans ((if_neg s_8).trans ((if_neg s_9).trans ((if_neg s_10).trans ((if_neg s_11).trans ((if_neg s_12).trans ((if_neg s_13).trans ((if_neg s_14).trans ((if_neg s_15).trans ((if_neg s_16).trans ((if_neg s_17).trans ((if_neg s_20).trans ((if_pos s_23).trans rfl)))))))))))))))))) dX6_count_280
  by_cases s_24 : x1 = 18
  · refine lv_tableIn (tgt := 281) hx hb dX6_count_1 (by rw [s_24]; decide) (by rw [s_24]; decide) (by rw [s_24]; rfl) (by decide) ?_
    refine lv_aload_n hx hb dX6_count_281 rfl (lv_at hl 0 rfl) ?_
    refine gt6_6 C hP in_X6_count_6 ln_X6_count_4 dX6_count_282 ?_
    refine lv_aload_n hx hb dX6_count_285 rfl (lv_at hl 0 rfl) ?_
    refine gt6_11 C hP in_X6_count_6 ln_X6_count_10 (v := ((u 0).1 11)) rfl dX6_count_286 ?_
    refine kv_p C (c_X2_isInWindow l D cI cZ (ad 14) (u 7) ((u 0).1 11) ) (cwV 1 C.2.2.2.2.1 gX6_count_X2_isInWindow rfl rfl rfl hdX2_isInWindow ⟨Nat.le_of_ble_eq_true rfl, Nat.le_of_ble_eq_true rfl⟩) (ci := 2) (q0 := 0) rfl rfl rfl hP hD hS (su_6_7 cI cZ ad u) rfl hl.1 rfl (Nat.le_of_ble_eq_true rfl) dX6_count_289 ⟨Nat.zero_le _, Nat.zero_le _⟩ (fun H locs hP hS => ?_)
    refine ks_p C (c_X6_asNumber l D cI cZ (f_X2_isInWindow (u 7) ((u 0).1 11)) ) (va_cwS 1 C.2.2.2.2.1 gX6_count_X6_asNumber rfl rfl rfl hdX6_asNumber ⟨Nat.le_of_ble_eq_true rfl, Nat.le_of_ble_eq_true rfl⟩) hP hD hS rfl hl.1 rfl (Nat.le_of_ble_eq_true rfl) dX6_count_292 ⟨Nat.zero_le _, Nat.zero_le _⟩ (fun H locs hP hS => ?_)
    exact rt_p C hr hlk hS ((if_neg s_1).trans ((if_neg s_2).trans ((if_neg s_3).trans ((if_neg s_5).trans ((if_neg s_6).trans ((if_neg s_7).trans ((if_neg s_8).trans ((if_neg s_9).trans ((if_neg s_10).trans ((if_neg s_11).trans ((if_neg s_12).trans ((if_neg s_13).trans ((if_neg s_14).trans ((if_neg s_15).trans ((if_neg s_16).trans ((if_neg s_17).trans ((if_neg s_20).trans ((if_neg s_23).trans ((if_pos s_24).trans rfl))))))))))))))))))) dX6_count_295
  refine tb_any (tgt := 296) hx hb dX6_count_1 ?_ (by decide) ?_
  · have q0 := lv_neT s_1 (a := 0) rfl
    have q1 := lv_neT s_2 (a := 1) rfl
    have q2 := lv_neT s_3 (a := 2) rfl
    have q3 := lv_neT s_5 (a := 3) rfl
    have q4 := lv_neT s_6 (a := 4) rfl
    have q5 := lv_neT s_7 (a := 5) rfl
    have q6 := lv_neT s_8 (a := 6) rfl
    have q7 := lv_neT s_9 (a := 7) rfl
    have q8 := lv_neT s_10 (a := 8) rfl
    have q9 := lv_neT s_11 (a := 9) rfl
    have q10 := lv_neT s_12 (a := 10) rfl
    have q11 := lv_neT s_13 (a := 11) rfl
    have q12 := lv_neT s_14 (a := 12) rfl
    have q13 := lv_neT s_15 (a := 13) rfl
    have q14 := lv_neT s_16 (a := 14) rfl
    have q15 := lv_neT s_17 (a := 15) rfl
    have q16 := lv_neT s_20 (a := 16) rfl
    have q17 := lv_neT s_23 (a := 17) rfl
    have q18 := lv_neT s_24 (a := 18) rfl
    rcases (show (x1.toInt < 0 ∨ 18 < x1.toInt) by omega) with h
    · exact Or.inl h
  · refine lv_iconst (v := (-1)) hx hb dX6_count_296 (by decide) ?_
    exact rt_p C hr hlk hS ((if_neg s_1).trans ((if_neg s_2).trans ((if_neg s_3).trans ((if_neg s_5).trans ((if_neg s_6).trans ((if_neg s_7).trans ((if_neg s_8).trans ((if_neg s_9).trans ((if_neg s_10).trans ((if_neg s_11).trans ((if_neg s_12).trans ((if_neg s_13).trans ((if_neg s_14).trans ((if_neg s_15).trans ((if_neg s_16).trans ((if_neg s_17).trans ((if_neg s_20).trans ((if_neg s_23).trans ((if_neg s_24).trans rfl))))))))))))))))))) dX6_count_297
