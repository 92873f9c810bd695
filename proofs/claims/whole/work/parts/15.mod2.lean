theorem ln_X7_power_1 : Cond.fieldLink RX7 78 "BlockCardModel" "isOn" "Z" ∈ wsX7_power := List.mem_of_getElem? (i := 1) rfl
theorem in_X7_power_7 : ∀ w ∈ wsX70, w ∈ wsX7_power := fun w h => List.mem_cons_of_mem _ (List.mem_append_right _ h)
set_option maxHeartbeats 4000000 in
set_option maxRecDepth 100000 in
theorem c_X7_power (l : Launch) (D : va_G) (cI cZ : ClassId) (ad : Nat → Nat) (u : ob_S) (x1 : Int32) (hA : pm_A u) : Ct_i l yX7_power wsX7_power ({ frames := 4, cells := 0, slots := 0, locals := 88 } : Room) D (ct_T cI cZ) [.ref (ad 0), .int x1] (w_7 cI ad u) (fun u => (w_7 cI ad u)) (f_X7_power u x1) := by
  refine en_i (cc := cX7_power) (maxL := 2) (ret := (some .int)) (own := RX7) (by decide +kernel) rfl rfl (Nat.le_of_ble_eq_true rfl) ?_
  intro p e s m args below meth c A ls C hr hlk hP hD hS hl
  have hx := C.1
  have hb := C.2.1
  have hl : lv_has ls 2 [(0, .ref (ad 0)), (1, .int x1)] := hl
  refine lv_iload_n hx hb dX7_power_0 rfl (lv_at hl 1 rfl) ?_
  refine lv_i2l hx hb dX7_power_1 rfl ?_
  refine lv_lconst (v := 0) hx hb dX7_power_2 (by decide) ?_
  refine lv_lconst (v := 1) hx hb dX7_power_3 (by decide) ?_
  refine ks_p C (c_X7_in l D cI cZ (Int32.toInt64 x1) 0 1 ) (va_cwS 3 C.2.2.2.2.1 gX7_power_X7_in rfl rfl rfl hdX7_in ⟨Nat.le_of_ble_eq_true rfl, Nat.le_of_ble_eq_true rfl⟩) hP hD hS rfl hl.1 rfl (Nat.le_of_ble_eq_true rfl) dX7_power_4 ⟨Nat.zero_le _, Nat.zero_le _⟩ (fun H locs hP hS => ?_)
  refine lv_if_ne (tgt := 12) hx hb dX7_power_7 (by decide) (fun c_1 => ?_) (fun c_1 => ?_)
  · refine lv_aload_n hx hb dX7_power_12 rfl (lv_at hl 0 rfl) ?_
    refine gt7_15 C hP in_X7_power_7 ln_X7_power_1 (v := (u.1 15)) rfl dX7_power_13 ?_
    refine lv_iload_n hx hb dX7_power_16 rfl (lv_at hl 1 rfl) ?_
    refine lv_iconst (v := 1) hx hb dX7_power_17 (by decide) ?_
    refine jn_i (g := fun x => F0 m 26 ls (.int x :: [.int (u.1 15)])) ((if x1 = 1 then 1 else 0)) (fun y_2 ey_2 => ?_) (fun J_2 => ?_)
    · refine lv_icmp_ne (tgt := 32) hx hb dX7_power_26 (by decide) (fun c_4 => ?_) (fun c_4 => ?_)
      · refine lv_aload_n hx hb dX7_power_32 rfl (lv_at hl 0 rfl) ?_
        refine gt7_15 C hP in_X7_power_7 ln_X7_power_1 (v := (u.1 15)) rfl dX7_power_33 ?_
        refine lv_if_eq (tgt := 43) hx hb dX7_power_36 (by decide) (fun c_5 => ?_) (fun c_5 => ?_)
        · refine lv_aload_n hx hb dX7_power_43 rfl (lv_at hl 0 rfl) ?_
          refine kv_v C (c_X7_begins l D cI cZ ad u  ) (cwV 0 C.2.2.2.2.1 gX7_power_X7_begins rfl rfl rfl hdX7_begins ⟨Nat.le_of_ble_eq_true rfl, Nat.le_of_ble_eq_true rfl⟩) (ci := 7) (q0 := 0) rfl rfl rfl hP hD hS (sp_self (fun u => (w_7 cI ad u)) 9 (fun _ => rfl)) rfl hl.1 rfl (Nat.le_of_ble_eq_true rfl) dX7_power_44 ⟨Nat.zero_le _, Nat.zero_le _⟩ (fun H locs hP hD hS => ?_)
          refine lv_aload_n hx hb dX7_power_47 rfl (lv_at hl 0 rfl) ?_
          refine lv_iload_n hx hb dX7_power_48 rfl (lv_at hl 1 rfl) ?_
          refine lv_iconst (v := 1) hx hb dX7_power_49 (by decide) ?_
          refine jn_i (g := fun x => F0 m 58 ls (.int x :: [.ref (ad 0)])) ((if x1 = 1 then 1 else 0)) (fun y_7 ey_7 => ?_) (fun J_7 => ?_)
          · refine pt7_15 C hP hD hS in_X7_power_7 ln_X7_power_1 (ey_7 ▸ (bz_ite (Or.inr rfl) (Or.inl rfl))) dX7_power_58 (fun H locs hP hD hS => ?_)
            refine lv_iconst (v := 1) hx hb dX7_power_61 (by decide) ?_
            subst ey_2 ey_7
            exact rt_i C hr hlk hP hD hS ((if_neg c_1).trans ((if_neg c_4).trans ((if_pos c_5).trans rfl))) dX7_power_62
          · refine lv_icmp_ne (tgt := 57) hx hb dX7_power_50 (by decide) (fun c_8 => ?_) (fun c_8 => ?_)
            · refine lv_iconst (v := 0) hx hb dX7_power_57 (by decide) ?_
              exact J_7 _ ((if_neg c_8).trans rfl).symm
            · refine lv_iconst (v := 1) hx hb dX7_power_53 (by decide) ?_
              refine lv_goto (tgt := 58) hx hb dX7_power_54 (by decide) ?_
              exact J_7 _ ((if_pos c_8).trans rfl).symm
        · refine lv_aload_n hx hb dX7_power_39 rfl (lv_at hl 0 rfl) ?_
          refine kv_v C (c_X7_cuts l D cI cZ ad u  hA) (cwV 0 C.2.2.2.2.1 gX7_power_X7_cuts rfl rfl rfl hdX7_cuts ⟨Nat.le_of_ble_eq_true rfl, Nat.le_of_ble_eq_true rfl⟩) (ci := 7) (q0 := 0) rfl rfl rfl hP hD hS (sp_self (fun u => (w_7 cI ad u)) 9 (fun _ => rfl)) rfl hl.1 rfl (Nat.le_of_ble_eq_true rfl) dX7_power_40 ⟨Nat.zero_le _, Nat.zero_le _⟩ (fun H locs hP hD hS => ?_)
          refine lv_aload_n hx hb dX7_power_43 rfl (lv_at hl 0 rfl) ?_
          refine kv_v C (c_X7_begins l D cI cZ ad (f_X7_cuts u)  ) (cwV 0 C.2.2.2.2.1 gX7_power_X7_begins rfl rfl rfl hdX7_begins ⟨Nat.le_of_ble_eq_true rfl, Nat.le_of_ble_eq_true rfl⟩) (ci := 7) (q0 := 0) rfl rfl rfl hP hD hS (sp_self (fun u => (w_7 cI ad u)) 9 (fun _ => rfl)) rfl hl.1 rfl (Nat.le_of_ble_eq_true rfl) dX7_power_44 ⟨Nat.zero_le _, Nat.zero_le _⟩ (fun H locs hP hD hS => ?_)
          refine lv_aload_n hx hb dX7_power_47 rfl (lv_at hl 0 rfl) ?_
          refine lv_iload_n hx hb dX7_power_48 rfl (lv_at hl 1 rfl) ?_
          refine lv_iconst (v := 1) hx hb dX7_power_49 (by decide) ?_
          refine jn_i (g := fun x => F0 m 58 ls (.int x :: [.ref (ad 0)])) ((if x1 = 1 then 1 else 0)) (fun y_11 ey_11 => ?_) (fun J_11 => ?_)
          · refine pt7_15 C hP hD hS in_X7_power_7 ln_X7_power_1 (ey_11 ▸ (bz_ite (Or.inr rfl) (Or.inl rfl))) dX7_power_58 (fun H locs hP hD hS => ?_)
            refine lv_iconst (v := 1) hx hb dX7_power_61 (by decide) ?_
            subst ey_2 ey_11
            exact rt_i C hr hlk hP hD hS ((if_neg c_1).trans ((if_neg c_4).trans ((if_neg c_5).trans rfl))) dX7_power_62
          · refine lv_icmp_ne (tgt := 57) hx hb dX7_power_50 (by decide) (fun c_12 => ?_) (fun c_12 => ?_)
            · refine lv_iconst (v := 0) hx hb dX7_power_57 (by decide) ?_
              exact J_11 _ ((if_neg c_12).trans rfl).symm
            · refine lv_iconst (v := 1) hx hb dX7_power_53 (by decide) ?_
              refine lv_goto (tgt := 58) hx hb dX7_power_54 (by decide) ?_
              exact J_11 _ ((if_pos c_12).trans rfl).symm
      · refine lv_bipush (v := (-2)) hx hb dX7_power_29 (by decide) ?_
        subst ey_2
        exact rt_i C hr hlk hP hD hS ((if_neg c_1).trans ((if_pos c_4).trans rfl)) dX7_power_31
    · refine lv_icmp_ne (tgt := 25) hx hb dX7_power_18 (by decide) (fun c_3 => ?_) (fun c_3 => ?_)
      · refine lv_iconst (v := 0) hx hb dX7_power_25 (by decide) ?_
        exact J_2 _ ((if_neg c_3).trans rfl).symm
      · refine lv_iconst (v := 1) hx hb dX7_power_21 (by decide) ?_
        refine lv_goto (tgt := 26) hx hb dX7_power_22 (by decide) ?_
        exact J_2 _ ((if_pos c_3).trans rfl).symm
  · refine lv_iconst (v := (-1)) hx hb dX7_power_10 (by decide) ?_
    exact rt_i C hr hlk hP hD hS ((if_pos c_1).trans rfl) dX7_power_11
theorem ln_X7_first_1 : Cond.fieldLink RX7 118 "BlockCardModel" "woken" "I" ∈ wsX7_first := List.mem_of_getElem? (i := 1) rfl
theorem in_X7_first_7 : ∀ w ∈ wsX70, w ∈ wsX7_first := fun w h => List.mem_cons_of_mem _ (List.mem_append_right _ h)
theorem ln_X7_first_2 : Cond.fieldLink RX7 59 "BlockCardModel" "idleness" "I" ∈ wsX7_first := List.mem_of_getElem? (i := 2) rfl
theorem ln_X7_first_3 : Cond.fieldLink RX7 85 "BlockCardModel" "state" "I" ∈ wsX7_first := List.mem_of_getElem? (i := 3) rfl
theorem ln_X7_first_4 : Cond.fieldLink RX7 62 "BlockCardModel" "number" "I" ∈ wsX7_first := List.mem_of_getElem? (i := 4) rfl
theorem ln_X7_first_5 : Cond.fieldLink RX7 88 "BlockCardModel" "address" "I" ∈ wsX7_first := List.mem_of_getElem? (i := 5) rfl
theorem ln_X7_first_6 : Cond.fieldLink RX7 94 "BlockCardModel" "speed" "I" ∈ wsX7_first := List.mem_of_getElem? (i := 6) rfl
theorem ln_X7_first_7 : Cond.fieldLink RX7 91 "BlockCardModel" "lines" "I" ∈ wsX7_first := List.mem_of_getElem? (i := 7) rfl
set_option maxHeartbeats 4000000 in
set_option maxRecDepth 100000 in
theorem c_X7_first (l : Launch) (D : va_G) (cI cZ : ClassId) (ad : Nat → Nat) (u : ob_S) (x1 : Int32) (x2 : Int32) (hA : pm_A u) : Ct_i l yX7_first wsX7_first ({ frames := 4, cells := 0, slots := 0, locals := 88 } : Room) D (ct_T cI cZ) [.ref (ad 0), .int x1, .int x2] (w_7 cI ad u) (fun u => (w_7 cI ad u)) (f_X7_first u x1 x2) := by
  refine en_i (cc := cX7_first) (maxL := 3) (ret := (some .int)) (own := RX7) (by decide +kernel) rfl rfl (Nat.le_of_ble_eq_true rfl) ?_
  intro p e s m args below meth c A ls C hr hlk hP hD hS hl
  have hx := C.1
  have hb := C.2.1
  have hl : lv_has ls 3 [(0, .ref (ad 0)), (1, .int x1), (2, .int x2)] := hl
  refine lv_iload_n hx hb dX7_first_0 rfl (lv_at hl 1 rfl) ?_
  by_cases s_1 : x1 = 0
  · refine lv_tableIn (tgt := 68) hx hb dX7_first_1 (by rw [s_1]; decide) (by rw [s_1]; decide) (by rw [s_1]; rfl) (by decide) ?_
    refine lv_aload_n hx hb dX7_first_68 rfl (lv_at hl 0 rfl) ?_
    refine kv_v C (c_X7_cuts l D cI cZ ad u  hA) (cwV 0 C.2.2.2.2.1 gX7_first_X7_cuts rfl rfl rfl hdX7_cuts ⟨Nat.le_of_ble_eq_true rfl, Nat.le_of_ble_eq_true rfl⟩) (ci := 7) (q0 := 0) rfl rfl rfl hP hD hS (sp_self (fun u => (w_7 cI ad u)) 9 (fun _ => rfl)) rfl hl.1 rfl (Nat.le_of_ble_eq_true rfl) dX7_first_69 ⟨Nat.zero_le _, Nat.zero_le _⟩ (fun H locs hP hD hS => ?_)
    refine lv_aload_n hx hb dX7_first_72 rfl (lv_at hl 0 rfl) ?_
    refine kv_v C (c_X7_begins l D cI cZ ad (f_X7_cuts u)  ) (cwV 0 C.2.2.2.2.1 gX7_first_X7_begins rfl rfl rfl hdX7_begins ⟨Nat.le_of_ble_eq_true rfl, Nat.le_of_ble_eq_true rfl⟩) (ci := 7) (q0 := 0) rfl rfl rfl hP hD hS (sp_self (fun u => (w_7 cI ad u)) 9 (fun _ => rfl)) rfl hl.1 rfl (Nat.le_of_ble_eq_true rfl) dX7_first_73 ⟨Nat.zero_le _, Nat.zero_le _⟩ (fun H locs hP hD hS => ?_)
    refine lv_iconst (v := 0) hx hb dX7_first_76 (by decide) ?_
    exact rt_i C hr hlk hP hD hS ((if_pos s_1).trans rfl) dX7_first_77
  by_cases s_4 : x1 = 1
  · refine lv_tableIn (tgt := 78) hx hb dX7_first_1 (by rw [s_4]; decide) (by rw [s_4]; decide) (by rw [s_4]; rfl) (by decide) ?_
    refine lv_aload_n hx hb dX7_first_78 rfl (lv_at hl 0 rfl) ?_
    refine lv_dup hx hb dX7_first_79 rfl ?_
    refine gt7_31 C hP in_X7_first_7 ln_X7_first_1 (v := (u.1 31)) rfl dX7_first_80 ?_
    refine lv_iconst (v := 1) hx hb dX7_first_83 (by decide) ?_
    refine lv_iadd hx hb dX7_first_84 ?_
    refine pt7_31 C hP hD hS in_X7_first_7 ln_X7_first_1 dX7_first_85 (fun H locs hP hD hS => ?_)
    refine lv_aload_n hx hb dX7_first_88 rfl (lv_at hl 0 rfl) ?_
    refine lv_aload_n hx hb dX7_first_89 rfl (lv_at hl 0 rfl) ?_
    refine gt7_31 C hP in_X7_first_7 ln_X7_first_1 (v := ((u.1 31) + 1)) rfl dX7_first_90 ?_
    refine lv_aload_n hx hb dX7_first_93 rfl (lv_at hl 0 rfl) ?_
    refine gt7_5 C hP in_X7_first_7 ln_X7_first_2 (v := (u.1 5)) rfl dX7_first_94 ?_
    refine jn_i (g := fun x => F0 m 105 ls (.int x :: [.ref (ad 0)])) ((if ((u.1 31) + 1) ≤ (u.1 5) then 0 else 1)) (fun y_5 ey_5 => ?_) (fun J_5 => ?_)
    · refine pt7_16 C hP hD hS in_X7_first_7 ln_X7_first_3 dX7_first_105 (fun H locs hP hD hS => ?_)
      refine lv_aload_n hx hb dX7_first_108 rfl (lv_at hl 0 rfl) ?_
      refine gt7_16 C hP in_X7_first_7 ln_X7_first_3 (v := y_5) rfl dX7_first_109 ?_
      subst ey_5
      exact rt_i C hr hlk hP hD hS ((if_neg s_1).trans ((if_pos s_4).trans rfl)) dX7_first_112
    · refine lv_icmp_le (tgt := 104) hx hb dX7_first_97 (by decide) (fun c_6 => ?_) (fun c_6 => ?_)
      · refine lv_iconst (v := 0) hx hb dX7_first_104 (by decide) ?_
        exact J_5 _ ((if_pos c_6).trans rfl).symm
      · refine lv_iconst (v := 1) hx hb dX7_first_100 (by decide) ?_
        refine lv_goto (tgt := 105) hx hb dX7_first_101 (by decide) ?_
        exact J_5 _ ((if_neg c_6).trans rfl).symm
  by_cases s_7 : x1 = 2
  · refine lv_tableIn (tgt := 113) hx hb dX7_first_1 (by rw [s_7]; decide) (by rw [s_7]; decide) (by rw [s_7]; rfl) (by decide) ?_
    refine lv_aload_n hx hb dX7_first_113 rfl (lv_at hl 0 rfl) ?_
    refine lv_iconst (v := 2) hx hb dX7_first_114 (by decide) ?_
    refine pt7_16 C hP hD hS in_X7_first_7 ln_X7_first_3 dX7_first_115 (fun H locs hP hD hS => ?_)
    refine lv_aload_n hx hb dX7_first_118 rfl (lv_at hl 0 rfl) ?_
    refine gt7_6 C hP in_X7_first_7 ln_X7_first_4 (v := (u.1 6)) rfl dX7_first_119 ?_
    exact rt_i C hr hlk hP hD hS ((if_neg s_1).trans ((if_neg s_4).trans ((if_pos s_7).trans rfl))) dX7_first_122
  by_cases s_8 : x1 = 3
  · refine lv_tableIn (tgt := 123) hx hb dX7_first_1 (by rw [s_8]; decide) (by rw [s_8]; decide) (by rw [s_8]; rfl) (by decide) ?_
    refine lv_aload_n hx hb dX7_first_123 rfl (lv_at hl 0 rfl) ?_
    refine lv_dup hx hb dX7_first_124 rfl ?_
    refine gt7_17 C hP in_X7_first_7 ln_X7_first_5 (v := (u.1 17)) rfl dX7_first_125 ?_
    refine lv_iconst (v := 1) hx hb dX7_first_128 (by decide) ?_
    refine lv_iadd hx hb dX7_first_129 ?_
    refine pt7_17 C hP hD hS in_X7_first_7 ln_X7_first_5 dX7_first_130 (fun H locs hP hD hS => ?_)
    refine lv_aload_n hx hb dX7_first_133 rfl (lv_at hl 0 rfl) ?_
    refine lv_iconst (v := 3) hx hb dX7_first_134 (by decide) ?_
    refine pt7_16 C hP hD hS in_X7_first_7 ln_X7_first_3 dX7_first_135 (fun H locs hP hD hS => ?_)
    refine lv_aload_n hx hb dX7_first_138 rfl (lv_at hl 0 rfl) ?_
    refine gt7_17 C hP in_X7_first_7 ln_X7_first_5 (v := ((u.1 17) + 1)) rfl dX7_first_139 ?_
    exact rt_i C hr hlk hP hD hS ((if_neg s_1).trans ((if_neg s_4).trans ((if_neg s_7).trans ((if_pos s_8).trans rfl)))) dX7_first_142
  by_cases s_9 : x1 = 6
  · refine lv_tableIn (tgt := 143) hx hb dX7_first_1 (by rw [s_9]; decide) (by rw [s_9]; decide) (by rw [s_9]; rfl) (by decide) ?_
    refine lv_aload_n hx hb dX7_first_143 rfl (lv_at hl 0 rfl) ?_
    refine lv_iload_n hx hb dX7_first_144 rfl (lv_at hl 2 rfl) ?_
    refine lv_iconst (v := 4) hx hb dX7_first_145 (by decide) ?_
    refine lv_idiv hx hb dX7_first_146 (by decide) ?_
    refine lv_iload_n hx hb dX7_first_147 rfl (lv_at hl 2 rfl) ?_
    refine lv_iconst (v := 4) hx hb dX7_first_148 (by decide) ?_
    refine lv_irem hx hb dX7_first_149 (by decide) ?_
    refine kv_v C (c_X7_switches l D cI cZ ad u (x2 / 4) (x2 - x2 / 4 * 4) ) (cwV 2 C.2.2.2.2.1 gX7_first_X7_switches rfl rfl rfl hdX7_switches ⟨Nat.le_of_ble_eq_true rfl, Nat.le_of_ble_eq_true rfl⟩) (ci := 7) (q0 := 0) rfl rfl rfl hP hD hS (sp_self (fun u => (w_7 cI ad u)) 9 (fun _ => rfl)) rfl hl.1 rfl (Nat.le_of_ble_eq_true rfl) dX7_first_150 ⟨Nat.zero_le _, Nat.zero_le _⟩ (fun H locs hP hD hS => ?_)
    refine lv_iconst (v := 4) hx hb dX7_first_153 (by decide) ?_
    refine lv_aload_n hx hb dX7_first_154 rfl (lv_at hl 0 rfl) ?_
    refine gt7_19 C hP in_X7_first_7 ln_X7_first_6 (v := ((f_X7_switches u (x2 / 4) (x2 - x2 / 4 * 4)).1 19)) rfl dX7_first_155 ?_
    refine lv_imul hx hb dX7_first_158 ?_
    refine lv_aload_n hx hb dX7_first_159 rfl (lv_at hl 0 rfl) ?_
    refine gt7_18 C hP in_X7_first_7 ln_X7_first_7 (v := ((f_X7_switches u (x2 / 4) (x2 - x2 / 4 * 4)).1 18)) rfl dX7_first_160 ?_
    refine lv_iadd hx hb dX7_first_163 ?_
    exact rt_i C hr hlk hP hD hS ((if_neg s_1).trans ((if_neg s_4).trans ((if_neg s_7).trans ((if_neg s_8).trans ((if_pos s_9).trans rfl))))) dX7_first_164
  by_cases s_11 : x1 = 7
  · refine lv_tableIn (tgt := 165) hx hb dX7_first_1 (by rw [s_11]; decide) (by rw [s_11]; decide) (by rw [s_11]; rfl) (by decide) ?_
    refine lv_aload_n hx hb dX7_first_165 rfl (lv_at hl 0 rfl) ?_
    refine lv_iload_n hx hb dX7_first_166 rfl (lv_at hl 2 rfl) ?_
    refine kv_i C (c_X7_chooses l D cI cZ ad u x2 ) (cwV 1 C.2.2.2.2.1 gX7_first_X7_chooses rfl rfl rfl hdX7_chooses ⟨Nat.le_of_ble_eq_true rfl, Nat.le_of_ble_eq_true rfl⟩) (ci := 7) (q0 := 0) rfl rfl rfl hP hD hS (sp_self (fun u => (w_7 cI ad u)) 9 (fun _ => rfl)) rfl hl.1 rfl (Nat.le_of_ble_eq_true rfl) dX7_first_167 ⟨Nat.zero_le _, Nat.zero_le _⟩ (fun H locs hP hD hS => ?_)
    exact rt_i C hr hlk hP hD hS ((if_neg s_1).trans ((if_neg s_4).trans ((if_neg s_7).trans ((if_neg s_8).trans ((if_neg s_9).trans ((if_pos s_11).trans rfl)))))) dX7_first_170
  by_cases s_13 : x1 = 12
  · refine lv_tableIn (tgt := 171) hx hb dX7_first_1 (by rw [s_13]; decide) (by rw [s_13]; decide) (by rw [s_13]; rfl) (by decide) ?_
    refine lv_aload_n hx hb dX7_first_171 rfl (lv_at hl 0 rfl) ?_
    refine kv_i C (c_X7_stops l D cI cZ ad u  ) (cwV 0 C.2.2.2.2.1 gX7_first_X7_stops rfl rfl rfl hdX7_stops ⟨Nat.le_of_ble_eq_true rfl, Nat.le_of_ble_eq_true rfl⟩) (ci := 7) (q0 := 0) rfl rfl rfl hP hD hS (sp_self (fun u => (w_7 cI ad u)) 9 (fun _ => rfl)) rfl hl.1 rfl (Nat.le_of_ble_eq_true rfl) dX7_first_172 ⟨Nat.zero_le _, Nat.zero_le _⟩ (fun H locs hP hD hS => ?_)
    exact rt_i C hr hlk hP hD hS ((if_neg s_1).trans ((if_neg s_4).trans ((if_neg s_7).trans ((if_neg s_8).trans ((if_neg s_9).trans ((if_neg s_11).trans ((if_pos s_13).trans rfl))))))) dX7_first_175
  refine tb_any (tgt := 176) hx hb dX7_first_1 ?_ (by decide) ?_
  · have q0 := lv_neT s_1 (a := 0) rfl
    have q1 := lv_neT s_4 (a := 1) rfl
    have q2 := lv_neT s_7 (a := 2) rfl
    have q3 := lv_neT s_8 (a := 3) rfl
    have q4 := lv_neT s_9 (a := 6) rfl
    have q5 := lv_neT s_11 (a := 7) rfl
    have q6 := lv_neT s_13 (a := 12) rfl
    rcases (show x1.toInt = 4 ∨ x1.toInt = 5 ∨ x1.toInt = 8 ∨ x1.toInt = 9 ∨ x1.toInt = 10 ∨ x1.toInt = 11 ∨ (x1.toInt < 0 ∨ 12 < x1.toInt) by omega) with h | h | h | h | h | h | h
    · exact Or.inr ⟨by rw [h]; decide, by rw [h]; decide, by rw [h]; rfl⟩
    · exact Or.inr ⟨by rw [h]; decide, by rw [h]; decide, by rw [h]; rfl⟩
    · exact Or.inr ⟨by rw [h]; decide, by rw [h]; decide, by rw [h]; rfl⟩
    · exact Or.inr ⟨by rw [h]; decide, by rw [h]; decide, by rw [h]; rfl⟩
    · exact Or.inr ⟨by rw [h]; decide, by rw [h]; decide, by rw [h]; rfl⟩
    · exact Or.inr ⟨by rw [h]; decide, by rw [h]; decide, by rw [h]; rfl⟩
    · exact Or.inl h
  · refine lv_iload_n hx hb dX7_first_176 rfl (lv_at hl 2 rfl) ?_
    refine lv_aload_n hx hb dX7_first_177 rfl (lv_at hl 0 rfl) ?_
    refine gt7_17 C hP in_X7_first_7 ln_X7_first_5 (v := (u.1 17)) rfl dX7_first_178 ?_
    refine lv_icmp_ne (tgt := 191) hx hb dX7_first_181 (by decide) (fun c_15 => ?_) (fun c_15 => ?_)
    · refine lv_bipush (v := (-4)) hx hb dX7_first_191 (by decide) ?_
      exact rt_i C hr hlk hP hD hS ((if_neg s_1).trans ((if_neg s_4).trans ((if_neg s_7).trans ((if_neg s_8).trans ((if_neg s_9).trans ((if_neg s_11).trans ((if_neg s_13).trans ((if_neg c_15).trans rfl)))))))) dX7_first_193
    · refine lv_aload_n hx hb dX7_first_184 rfl (lv_at hl 0 rfl) ?_
      refine kv_i C (c_X7_status l D cI cZ ad u  ) (cwV 0 C.2.2.2.2.1 gX7_first_X7_status rfl rfl rfl hdX7_status ⟨Nat.le_of_ble_eq_true rfl, Nat.le_of_ble_eq_true rfl⟩) (ci := 7) (q0 := 0) rfl rfl rfl hP hD hS (sp_self (fun u => (w_7 cI ad u)) 9 (fun _ => rfl)) rfl hl.1 rfl (Nat.le_of_ble_eq_true rfl) dX7_first_185 ⟨Nat.zero_le _, Nat.zero_le _⟩ (fun H locs hP hD hS => ?_)
      refine lv_goto (tgt := 193) hx hb dX7_first_188 (by decide) ?_
      exact rt_i C hr hlk hP hD hS ((if_neg s_1).trans ((if_neg s_4).trans ((if_neg s_7).trans ((if_neg s_8).trans ((if_neg s_9).trans ((if_neg s_11).trans ((if_neg s_13).trans ((if_pos c_15).trans rfl)))))))) dX7_first_193
theorem ln_X7_streamsFrom_1 : Cond.fieldLink RX7 52 "BlockCardModel" "blocks" "I" ∈ wsX7_streamsFrom := List.mem_of_getElem? (i := 1) rfl
theorem in_X7_streamsFrom_7 : ∀ w ∈ wsX70, w ∈ wsX7_streamsFrom := fun w h => List.mem_cons_of_mem _ (List.mem_append_right _ h)
theorem ln_X7_streamsFrom_2 : Cond.fieldLink RX7 85 "BlockCardModel" "state" "I" ∈ wsX7_streamsFrom := List.mem_of_getElem? (i := 2) rfl
theorem ln_X7_streamsFrom_3 : Cond.fieldLink RX7 124 "BlockCardModel" "next" "I" ∈ wsX7_streamsFrom := List.mem_of_getElem? (i := 3) rfl
theorem ln_X7_streamsFrom_4 : Cond.fieldLink RX7 115 "BlockCardModel" "told" "I" ∈ wsX7_streamsFrom := List.mem_of_getElem? (i := 4) rfl
theorem ln_X7_streamsFrom_5 : Cond.fieldLink RX7 127 "BlockCardModel" "left" "I" ∈ wsX7_streamsFrom := List.mem_of_getElem? (i := 5) rfl
theorem ln_X7_streamsFrom_6 : Cond.fieldLink RX7 130 "BlockCardModel" "isWrong" "Z" ∈ wsX7_streamsFrom := List.mem_of_getElem? (i := 6) rfl
theorem ln_X7_streamsFrom_7 : Cond.fieldLink RX7 68 "BlockCardModel" "well" "I" ∈ wsX7_streamsFrom := List.mem_of_getElem? (i := 7) rfl
set_option maxHeartbeats 4000000 in
set_option maxRecDepth 100000 in
theorem c_X7_streamsFrom (l : Launch) (D : va_G) (cI cZ : ClassId) (ad : Nat → Nat) (u : ob_S) (x1 : Int32) (x2 : Int32)  : Ct_i l yX7_streamsFrom wsX7_streamsFrom ({ frames := 1, cells := 0, slots := 0, locals := 21 } : Room) D (ct_T cI cZ) [.ref (ad 0), .int x1, .int x2] (w_7 cI ad u) (fun u => (w_7 cI ad u)) (f_X7_streamsFrom u x1 x2) := by
  refine en_i (cc := cX7_streamsFrom) (maxL := 4) (ret := (some .int)) (own := RX7) (by decide +kernel) rfl rfl (Nat.le_of_ble_eq_true rfl) ?_
  intro p e s m args below meth c A ls C hr hlk hP hD hS hl
  have hx := C.1
  have hb := C.2.1
  have hl : lv_has ls 4 [(0, .ref (ad 0)), (1, .int x1), (2, .int x2)] := hl
  refine lv_iload_n hx hb dX7_streamsFrom_0 rfl (lv_at hl 2 rfl) ?_
  refine lv_aload_n hx hb dX7_streamsFrom_1 rfl (lv_at hl 0 rfl) ?_
  refine gt7_3 C hP in_X7_streamsFrom_7 ln_X7_streamsFrom_1 (v := (u.1 3)) rfl dX7_streamsFrom_2 ?_
  refine lv_icmp_lt (tgt := 14) hx hb dX7_streamsFrom_5 (by decide) (fun c_1 => ?_) (fun c_1 => ?_)
  · refine lv_iload_n hx hb dX7_streamsFrom_14 rfl (lv_at hl 1 rfl) ?_
    refine lv_bipush (v := 17) hx hb dX7_streamsFrom_15 (by decide) ?_
    refine jn_i (g := fun x => F0 m 31 ls (.int x :: [])) ((if x1 = 17 then 1 else (if x1 = 24 then 1 else 0))) (fun y_2 ey_2 => ?_) (fun J_2 => ?_)
    · refine lv_istore_n (lv' := [(3, .int _), (0, .ref _), (1, .int _), (2, .int _)]) hx hb dX7_streamsFrom_31 rfl hl (by decide) rfl (fun ls hl => ?_)
      refine lv_aload_n hx hb dX7_streamsFrom_32 rfl (lv_at hl 1 rfl) ?_
      refine lv_iload_n hx hb dX7_streamsFrom_33 rfl (lv_at hl 2 rfl) ?_
      refine lv_bipush (v := 20) hx hb dX7_streamsFrom_34 (by decide) ?_
      refine jn_i (g := fun x => F0 m 45 ls (.int x :: [.ref (ad 0)])) ((if 20 ≤ x1 then 6 else 5)) (fun y_5 ey_5 => ?_) (fun J_5 => ?_)
      · refine pt7_16 C hP hD hS in_X7_streamsFrom_7 ln_X7_streamsFrom_2 dX7_streamsFrom_45 (fun H locs hP hD hS => ?_)
        refine lv_aload_n hx hb dX7_streamsFrom_48 rfl (lv_at hl 1 rfl) ?_
        refine lv_iload_n hx hb dX7_streamsFrom_49 rfl (lv_at hl 3 rfl) ?_
        refine pt7_35 C hP hD hS in_X7_streamsFrom_7 ln_X7_streamsFrom_3 dX7_streamsFrom_50 (fun H locs hP hD hS => ?_)
        refine lv_aload_n hx hb dX7_streamsFrom_53 rfl (lv_at hl 1 rfl) ?_
        refine lv_iload_n hx hb dX7_streamsFrom_54 rfl (lv_at hl 0 rfl) ?_
        refine jn_i (g := fun x => F0 m 78 ls (.int x :: [.ref (ad 0)])) ((if y_2 = 0 then (if (u.1 30) ≤ 0 then (-4) else (u.1 30)) else 1)) (fun y_7 ey_7 => ?_) (fun J_7 => ?_)
        · refine pt7_36 C hP hD hS in_X7_streamsFrom_7 ln_X7_streamsFrom_5 dX7_streamsFrom_78 (fun H locs hP hD hS => ?_)
          refine lv_aload_n hx hb dX7_streamsFrom_81 rfl (lv_at hl 1 rfl) ?_
          refine lv_bipush (v := (-4)) hx hb dX7_streamsFrom_82 (by decide) ?_
          refine pt7_30 C hP hD hS in_X7_streamsFrom_7 ln_X7_streamsFrom_4 dX7_streamsFrom_84 (fun H locs hP hD hS => ?_)
          refine lv_aload_n hx hb dX7_streamsFrom_87 rfl (lv_at hl 1 rfl) ?_
          refine lv_iconst (v := 0) hx hb dX7_streamsFrom_88 (by decide) ?_
          refine pt7_37 C hP hD hS in_X7_streamsFrom_7 ln_X7_streamsFrom_6 (Or.inl rfl) dX7_streamsFrom_89 (fun H locs hP hD hS => ?_)
          refine lv_aload_n hx hb dX7_streamsFrom_92 rfl (lv_at hl 1 rfl) ?_
          refine lv_aload_n hx hb dX7_streamsFrom_93 rfl (lv_at hl 1 rfl) ?_
          refine gt7_16 C hP in_X7_streamsFrom_7 ln_X7_streamsFrom_2 (v := y_5) rfl dX7_streamsFrom_94 ?_
          refine lv_bipush (v := 6) hx hb dX7_streamsFrom_97 (by decide) ?_
          refine jn_i (g := fun x => F0 m 110 ls (.int x :: [.ref (ad 0)])) ((if y_5 = 6 then 0 else (u.1 8))) (fun y_10 ey_10 => ?_) (fun J_10 => ?_)
          · refine pt7_8 C hP hD hS in_X7_streamsFrom_7 ln_X7_streamsFrom_7 dX7_streamsFrom_110 (fun H locs hP hD hS => ?_)
            refine lv_iconst (v := 0) hx hb dX7_streamsFrom_113 (by decide) ?_
            subst ey_2 ey_5 ey_7 ey_10
            exact rt_i C hr hlk hP hD hS ((if_pos c_1).trans rfl) dX7_streamsFrom_114
          · refine lv_icmp_ne (tgt := 106) hx hb dX7_streamsFrom_99 (by decide) (fun c_11 => ?_) (fun c_11 => ?_)
            · refine lv_aload_n hx hb dX7_streamsFrom_106 rfl (lv_at hl 1 rfl) ?_
              refine gt7_8 C hP in_X7_streamsFrom_7 ln_X7_streamsFrom_7 (v := (u.1 8)) rfl dX7_streamsFrom_107 ?_
              exact J_10 _ ((if_neg c_11).trans rfl).symm
            · refine lv_iconst (v := 0) hx hb dX7_streamsFrom_102 (by decide) ?_
              refine lv_goto (tgt := 110) hx hb dX7_streamsFrom_103 (by decide) ?_
              exact J_10 _ ((if_pos c_11).trans rfl).symm
        · refine lv_if_eq (tgt := 62) hx hb dX7_streamsFrom_55 (by decide) (fun c_8 => ?_) (fun c_8 => ?_)
          · refine lv_aload_n hx hb dX7_streamsFrom_62 rfl (lv_at hl 1 rfl) ?_
            refine gt7_30 C hP in_X7_streamsFrom_7 ln_X7_streamsFrom_4 (v := (u.1 30)) rfl dX7_streamsFrom_63 ?_
            refine lv_if_le (tgt := 76) hx hb dX7_streamsFrom_66 (by decide) (fun c_9 => ?_) (fun c_9 => ?_)
            · refine lv_bipush (v := (-4)) hx hb dX7_streamsFrom_76 (by decide) ?_
              exact J_7 _ ((if_pos c_8).trans ((if_pos c_9).trans rfl)).symm
            · refine lv_aload_n hx hb dX7_streamsFrom_69 rfl (lv_at hl 1 rfl) ?_
              refine gt7_30 C hP in_X7_streamsFrom_7 ln_X7_streamsFrom_4 (v := (u.1 30)) rfl dX7_streamsFrom_70 ?_
              refine lv_goto (tgt := 78) hx hb dX7_streamsFrom_73 (by decide) ?_
              exact J_7 _ ((if_pos c_8).trans ((if_neg c_9).trans rfl)).symm
          · refine lv_iconst (v := 1) hx hb dX7_streamsFrom_58 (by decide) ?_
            refine lv_goto (tgt := 78) hx hb dX7_streamsFrom_59 (by decide) ?_
            exact J_7 _ ((if_neg c_8).trans rfl).symm
      · refine lv_icmp_ge (tgt := 43) hx hb dX7_streamsFrom_36 (by decide) (fun c_6 => ?_) (fun c_6 => ?_)
        · refine lv_bipush (v := 6) hx hb dX7_streamsFrom_43 (by decide) ?_
          exact J_5 _ ((if_pos c_6).trans rfl).symm
        · refine lv_iconst (v := 5) hx hb dX7_streamsFrom_39 (by decide) ?_
          refine lv_goto (tgt := 45) hx hb dX7_streamsFrom_40 (by decide) ?_
          exact J_5 _ ((if_neg c_6).trans rfl).symm
    · refine lv_icmp_eq (tgt := 26) hx hb dX7_streamsFrom_17 (by decide) (fun c_3 => ?_) (fun c_3 => ?_)
      · refine lv_iconst (v := 1) hx hb dX7_streamsFrom_26 (by decide) ?_
        refine lv_goto (tgt := 31) hx hb dX7_streamsFrom_27 (by decide) ?_
        exact J_2 _ ((if_pos c_3).trans rfl).symm
      · refine lv_iload_n hx hb dX7_streamsFrom_20 rfl (lv_at hl 1 rfl) ?_
        refine lv_bipush (v := 24) hx hb dX7_streamsFrom_21 (by decide) ?_
        refine lv_icmp_ne (tgt := 30) hx hb dX7_streamsFrom_23 (by decide) (fun c_4 => ?_) (fun c_4 => ?_)
        · refine lv_iconst (v := 0) hx hb dX7_streamsFrom_30 (by decide) ?_
          exact J_2 _ ((if_neg c_3).trans ((if_neg c_4).trans rfl)).symm
        · refine lv_iconst (v := 1) hx hb dX7_streamsFrom_26 (by decide) ?_
          refine lv_goto (tgt := 31) hx hb dX7_streamsFrom_27 (by decide) ?_
          exact J_2 _ ((if_neg c_3).trans ((if_pos c_4).trans rfl)).symm
  · refine lv_aload_n hx hb dX7_streamsFrom_8 rfl (lv_at hl 0 rfl) ?_
    refine lv_iconst (v := 4) hx hb dX7_streamsFrom_9 (by decide) ?_
    refine kv_i C (c_X7_noting l D cI cZ ad u 4 ) (cwV 1 C.2.2.2.2.1 gX7_streamsFrom_X7_noting rfl rfl rfl hdX7_noting ⟨Nat.le_of_ble_eq_true rfl, Nat.le_of_ble_eq_true rfl⟩) (ci := 7) (q0 := 0) rfl rfl rfl hP hD hS (sp_self (fun u => (w_7 cI ad u)) 9 (fun _ => rfl)) rfl hl.1 rfl (Nat.le_of_ble_eq_true rfl) dX7_streamsFrom_10 ⟨Nat.zero_le _, Nat.zero_le _⟩ (fun H locs hP hD hS => ?_)
    exact rt_i C hr hlk hP hD hS ((if_neg c_1).trans rfl) dX7_streamsFrom_13
theorem ln_X7_streams_1 : Cond.fieldLink RX7 97 "BlockCardModel" "point" "I" ∈ wsX7_streams := List.mem_of_getElem? (i := 1) rfl
theorem in_X7_streams_7 : ∀ w ∈ wsX70, w ∈ wsX7_streams := fun w h => List.mem_cons_of_mem _ (List.mem_append_right _ h)
theorem ln_X7_streams_2 : Cond.fieldLink RX7 68 "BlockCardModel" "well" "I" ∈ wsX7_streams := List.mem_of_getElem? (i := 2) rfl
theorem ln_X7_streams_3 : Cond.fieldLink RX7 115 "BlockCardModel" "told" "I" ∈ wsX7_streams := List.mem_of_getElem? (i := 3) rfl
set_option maxHeartbeats 4000000 in
set_option maxRecDepth 100000 in
theorem c_X7_streams (l : Launch) (D : va_G) (cI cZ : ClassId) (ad : Nat → Nat) (u : ob_S) (x1 : Int32) (x2 : Int32)  : Ct_i l yX7_streams wsX7_streams ({ frames := 2, cells := 0, slots := 0, locals := 44 } : Room) D (ct_T cI cZ) [.ref (ad 0), .int x1, .int x2] (w_7 cI ad u) (fun u => (w_7 cI ad u)) (f_X7_streams u x1 x2) := by
  refine en_i (cc := cX7_streams) (maxL := 3) (ret := (some .int)) (own := RX7) (by decide +kernel) rfl rfl (Nat.le_of_ble_eq_true rfl) ?_
  intro p e s m args below meth c A ls C hr hlk hP hD hS hl
  have hx := C.1
  have hb := C.2.1
  have hl : lv_has ls 3 [(0, .ref (ad 0)), (1, .int x1), (2, .int x2)] := hl
  refine lv_iload_n hx hb dX7_streams_0 rfl (lv_at hl 1 rfl) ?_
  by_cases s_1 : x1 = 21
  · refine lv_tableIn (tgt := 28) hx hb dX7_streams_1 (by rw [s_1]; decide) (by rw [s_1]; decide) (by rw [s_1]; rfl) (by decide) ?_
    refine lv_aload_n hx hb dX7_streams_28 rfl (lv_at hl 0 rfl) ?_
    refine lv_iload_n hx hb dX7_streams_29 rfl (lv_at hl 2 rfl) ?_
    refine lv_bipush (v := 16) hx hb dX7_streams_30 (by decide) ?_
    refine lv_irem hx hb dX7_streams_32 (by decide) ?_
    refine pt7_20 C hP hD hS in_X7_streams_7 ln_X7_streams_1 dX7_streams_33 (fun H locs hP hD hS => ?_)
    refine lv_aload_n hx hb dX7_streams_36 rfl (lv_at hl 0 rfl) ?_
    refine kv_p C (c_X7_isInWindow l D cI cZ ad (ob_i u 20 (x2 - x2 / 16 * 16))  ) (cwV 0 C.2.2.2.2.1 gX7_streams_X7_isInWindow rfl rfl rfl hdX7_isInWindow ⟨Nat.le_of_ble_eq_true rfl, Nat.le_of_ble_eq_true rfl⟩) (ci := 7) (q0 := 0) rfl rfl rfl hP hD hS (su_self _) rfl hl.1 rfl (Nat.le_of_ble_eq_true rfl) dX7_streams_37 ⟨Nat.zero_le _, Nat.zero_le _⟩ (fun H locs hP hS => ?_)
    refine lv_if_eq (tgt := 47) hx hb dX7_streams_40 (by decide) (fun c_2 => ?_) (fun c_2 => ?_)
    · refine lv_iconst (v := 0) hx hb dX7_streams_47 (by decide) ?_
      exact rt_i C hr hlk hP hD hS ((if_pos s_1).trans ((if_pos c_2).trans rfl)) dX7_streams_48
    · refine lv_iconst (v := 1) hx hb dX7_streams_43 (by decide) ?_
      refine lv_goto (tgt := 48) hx hb dX7_streams_44 (by decide) ?_
      exact rt_i C hr hlk hP hD hS ((if_pos s_1).trans ((if_neg c_2).trans rfl)) dX7_streams_48
  by_cases s_3 : x1 = 22
  · refine lv_tableIn (tgt := 49) hx hb dX7_streams_1 (by rw [s_3]; decide) (by rw [s_3]; decide) (by rw [s_3]; rfl) (by decide) ?_
    refine lv_aload_n hx hb dX7_streams_49 rfl (lv_at hl 0 rfl) ?_
    refine gt7_8 C hP in_X7_streams_7 ln_X7_streams_2 (v := (u.1 8)) rfl dX7_streams_50 ?_
    exact rt_i C hr hlk hP hD hS ((if_neg s_1).trans ((if_pos s_3).trans rfl)) dX7_streams_53
  by_cases s_4 : x1 = 23
  · refine lv_tableIn (tgt := 54) hx hb dX7_streams_1 (by rw [s_4]; decide) (by rw [s_4]; decide) (by rw [s_4]; rfl) (by decide) ?_
    refine lv_aload_n hx hb dX7_streams_54 rfl (lv_at hl 0 rfl) ?_
    refine lv_iload_n hx hb dX7_streams_55 rfl (lv_at hl 2 rfl) ?_
    refine pt7_30 C hP hD hS in_X7_streams_7 ln_X7_streams_3 dX7_streams_56 (fun H locs hP hD hS => ?_)
    refine lv_iload_n hx hb dX7_streams_59 rfl (lv_at hl 2 rfl) ?_
    exact rt_i C hr hlk hP hD hS ((if_neg s_1).trans ((if_neg s_3).trans ((if_pos s_4).trans rfl))) dX7_streams_60
  refine tb_any (tgt := 61) hx hb dX7_streams_1 ?_ (by decide) ?_
  · have q0 := lv_neT s_1 (a := 21) rfl
    have q1 := lv_neT s_3 (a := 22) rfl
    have q2 := lv_neT s_4 (a := 23) rfl
    rcases (show (x1.toInt < 21 ∨ 23 < x1.toInt) by omega) with h
    · exact Or.inl h
  · refine lv_aload_n hx hb dX7_streams_61 rfl (lv_at hl 0 rfl) ?_
    refine lv_iload_n hx hb dX7_streams_62 rfl (lv_at hl 1 rfl) ?_
    refine lv_iload_n hx hb dX7_streams_63 rfl (lv_at hl 2 rfl) ?_
    refine kv_i C (c_X7_streamsFrom l D cI cZ ad u x1 x2 ) (cwV 2 C.2.2.2.2.1 gX7_streams_X7_streamsFrom rfl rfl rfl hdX7_streamsFrom ⟨Nat.le_of_ble_eq_true rfl, Nat.le_of_ble_eq_true rfl⟩) (ci := 7) (q0 := 0) rfl rfl rfl hP hD hS (sp_self (fun u => (w_7 cI ad u)) 9 (fun _ => rfl)) rfl hl.1 rfl (Nat.le_of_ble_eq_true rfl) dX7_streams_64 ⟨Nat.zero_le _, Nat.zero_le _⟩ (fun H locs hP hD hS => ?_)
    exact rt_i C hr hlk hP hD hS ((if_neg s_1).trans ((if_neg s_3).trans ((if_neg s_4).trans rfl))) dX7_streams_67
theorem ln_X7_locks_1 : Cond.fieldLink RX7 100 "BlockCardModel" "isLocked" "Z" ∈ wsX7_locks := List.mem_of_getElem? (i := 1) rfl
theorem in_X7_locks_7 : ∀ w ∈ wsX70, w ∈ wsX7_locks := fun w h => List.mem_cons_of_mem _ (List.mem_append_right _ h)
theorem ln_X7_locks_2 : Cond.fieldLink RX7 71 "BlockCardModel" "wordLong" "I" ∈ wsX7_locks := List.mem_of_getElem? (i := 2) rfl
set_option maxHeartbeats 4000000 in
set_option maxRecDepth 100000 in
theorem c_X7_locks (l : Launch) (D : va_G) (cI cZ : ClassId) (ad : Nat → Nat) (u : ob_S) (x1 : Int32) (hA : pm_A u) : Ct_i l yX7_locks wsX7_locks ({ frames := 3, cells := 0, slots := 0, locals := 71 } : Room) D (ct_T cI cZ) [.ref (ad 0), .int x1] (w_7 cI ad u) (fun u => (w_7 cI ad u)) (f_X7_locks u x1) := by
  refine en_i (cc := cX7_locks) (maxL := 3) (ret := (some .int)) (own := RX7) (by decide +kernel) rfl rfl (Nat.le_of_ble_eq_true rfl) ?_
  intro p e s m args below meth c A ls C hr hlk hP hD hS hl
  have hx := C.1
  have hb := C.2.1
  have hl : lv_has ls 3 [(0, .ref (ad 0)), (1, .int x1)] := hl
  refine lv_iconst (v := 0) hx hb dX7_locks_0 (by decide) ?_
  refine lv_istore_n (lv' := [(2, .int _), (0, .ref _), (1, .int _)]) hx hb dX7_locks_1 rfl hl (by decide) rfl (fun ls hl => ?_)
  refine lv_iload_n hx hb dX7_locks_2 rfl (lv_at hl 2 rfl) ?_
  by_cases s_1 : x1 = 0
  · refine lv_tableIn (tgt := 52) hx hb dX7_locks_3 (by rw [s_1]; decide) (by rw [s_1]; decide) (by rw [s_1]; rfl) (by decide) ?_
    refine lv_aload_n hx hb dX7_locks_52 rfl (lv_at hl 1 rfl) ?_
    refine gt7_21 C hP in_X7_locks_7 ln_X7_locks_1 (v := (u.1 21)) rfl dX7_locks_53 ?_
    refine lv_if_eq (tgt := 72) hx hb dX7_locks_56 (by decide) (fun c_2 => ?_) (fun c_2 => ?_)
    · refine lv_iconst (v := 0) hx hb dX7_locks_72 (by decide) ?_
      refine lv_istore_n (lv' := [(2, .int _), (0, .ref _), (1, .int _)]) hx hb dX7_locks_73 rfl hl (by decide) rfl (fun ls hl => ?_)
      refine lv_aload_n hx hb dX7_locks_74 rfl (lv_at hl 1 rfl) ?_
      refine lv_aload_n hx hb dX7_locks_75 rfl (lv_at hl 1 rfl) ?_
      refine gt7_21 C hP in_X7_locks_7 ln_X7_locks_1 (v := (u.1 21)) rfl dX7_locks_76 ?_
      refine jn_i (g := fun x => F0 m 91 ls (.int x :: [.ref (ad 0)])) ((if (u.1 21) = 0 then 0 else 1)) (fun y_3 ey_3 => ?_) (fun J_3 => ?_)
      · refine pt7_21 C hP hD hS in_X7_locks_7 ln_X7_locks_1 (ey_3 ▸ (bz_ite (Or.inl rfl) (Or.inr rfl))) dX7_locks_91 (fun H locs hP hD hS => ?_)
        refine lv_goto (tgt := 235) hx hb dX7_locks_94 (by decide) ?_
        refine lv_iload_n hx hb dX7_locks_235 rfl (lv_at hl 0 rfl) ?_
        refine lv_if_eq (tgt := 243) hx hb dX7_locks_236 (by decide) (fun c_6 => ?_) (fun c_6 => ?_)
        · refine lv_aload_n hx hb dX7_locks_243 rfl (lv_at hl 1 rfl) ?_
          refine lv_bipush (v := 16) hx hb dX7_locks_244 (by decide) ?_
          refine kv_i C (c_X7_noting l D cI cZ ad (ob_i u 21 y_3) 16 ) (cwV 1 C.2.2.2.2.1 gX7_locks_X7_noting rfl rfl rfl hdX7_noting ⟨Nat.le_of_ble_eq_true rfl, Nat.le_of_ble_eq_true rfl⟩) (ci := 7) (q0 := 0) rfl rfl rfl hP hD hS (sp_self (fun u => (w_7 cI ad u)) 9 (fun _ => rfl)) rfl hl.1 rfl (Nat.le_of_ble_eq_true rfl) dX7_locks_246 ⟨Nat.zero_le _, Nat.zero_le _⟩ (fun H locs hP hD hS => ?_)
          subst ey_3
          exact rt_i C hr hlk hP hD hS ((if_pos s_1).trans ((if_pos c_2).trans rfl)) dX7_locks_249
        · exact absurd (by decide) c_6
      · refine lv_if_eq (tgt := 90) hx hb dX7_locks_79 (by decide) (fun c_4 => ?_) (fun c_4 => ?_)
        · refine lv_iconst (v := 0) hx hb dX7_locks_90 (by decide) ?_
          exact J_3 _ ((if_pos c_4).trans rfl).symm
        · refine lv_iload_n hx hb dX7_locks_82 rfl (lv_at hl 0 rfl) ?_
          refine lv_if_ne (tgt := 90) hx hb dX7_locks_83 (by decide) (fun c_5 => ?_) (fun c_5 => ?_)
          · exact absurd (by decide) c_5
          · refine lv_iconst (v := 1) hx hb dX7_locks_86 (by decide) ?_
            refine lv_goto (tgt := 91) hx hb dX7_locks_87 (by decide) ?_
            exact J_3 _ ((if_neg c_4).trans rfl).symm
    · refine lv_aload_n hx hb dX7_locks_59 rfl (lv_at hl 1 rfl) ?_
      refine lv_iconst (v := 0) hx hb dX7_locks_60 (by decide) ?_
      refine lv_iconst (v := 0) hx hb dX7_locks_61 (by decide) ?_
      refine kv_p C (c_X7_isWord l D cI cZ ad u 0 0 hA.2.2.2.2.2.1.2) (cwV 2 C.2.2.2.2.1 gX7_locks_X7_isWord rfl rfl rfl hdX7_isWord ⟨Nat.le_of_ble_eq_true rfl, Nat.le_of_ble_eq_true rfl⟩) (ci := 7) (q0 := 0) rfl rfl rfl hP hD hS (su_self _) rfl hl.1 rfl (Nat.le_of_ble_eq_true rfl) dX7_locks_62 ⟨Nat.zero_le _, Nat.zero_le _⟩ (fun H locs hP hS => ?_)
      refine jn_i (g := fun x => F0 m 73 ls (.int x :: [])) ((if (f_X7_isWord u 0 0) = 0 then 0 else 1)) (fun y_8 ey_8 => ?_) (fun J_8 => ?_)
      · refine lv_istore_n (lv' := [(2, .int _), (0, .ref _), (1, .int _)]) hx hb dX7_locks_73 rfl hl (by decide) rfl (fun ls hl => ?_)
        refine lv_aload_n hx hb dX7_locks_74 rfl (lv_at hl 1 rfl) ?_
        refine lv_aload_n hx hb dX7_locks_75 rfl (lv_at hl 1 rfl) ?_
        refine gt7_21 C hP in_X7_locks_7 ln_X7_locks_1 (v := (u.1 21)) rfl dX7_locks_76 ?_
        refine jn_i (g := fun x => F0 m 91 ls (.int x :: [.ref (ad 0)])) ((if (u.1 21) = 0 then 0 else (if y_8 = 0 then 1 else 0))) (fun y_10 ey_10 => ?_) (fun J_10 => ?_)
        · refine pt7_21 C hP hD hS in_X7_locks_7 ln_X7_locks_1 (ey_10 ▸ (bz_ite (Or.inl rfl) (bz_ite (Or.inr rfl) (Or.inl rfl)))) dX7_locks_91 (fun H locs hP hD hS => ?_)
          refine lv_goto (tgt := 235) hx hb dX7_locks_94 (by decide) ?_
          refine lv_iload_n hx hb dX7_locks_235 rfl (lv_at hl 0 rfl) ?_
          refine lv_if_eq (tgt := 243) hx hb dX7_locks_236 (by decide) (fun c_13 => ?_) (fun c_13 => ?_)
          · refine lv_aload_n hx hb dX7_locks_243 rfl (lv_at hl 1 rfl) ?_
            refine lv_bipush (v := 16) hx hb dX7_locks_244 (by decide) ?_
            refine kv_i C (c_X7_noting l D cI cZ ad (ob_i u 21 y_10) 16 ) (cwV 1 C.2.2.2.2.1 gX7_locks_X7_noting rfl rfl rfl hdX7_noting ⟨Nat.le_of_ble_eq_true rfl, Nat.le_of_ble_eq_true rfl⟩) (ci := 7) (q0 := 0) rfl rfl rfl hP hD hS (sp_self (fun u => (w_7 cI ad u)) 9 (fun _ => rfl)) rfl hl.1 rfl (Nat.le_of_ble_eq_true rfl) dX7_locks_246 ⟨Nat.zero_le _, Nat.zero_le _⟩ (fun H locs hP hD hS => ?_)
            subst ey_8 ey_10
            exact rt_i C hr hlk hP hD hS ((if_pos s_1).trans ((if_neg c_2).trans ((if_pos c_13).trans rfl))) dX7_locks_249
          · refine lv_iconst (v := 1) hx hb dX7_locks_239 (by decide) ?_
            refine lv_goto (tgt := 249) hx hb dX7_locks_240 (by decide) ?_
            subst ey_8 ey_10
            exact rt_i C hr hlk hP hD hS ((if_pos s_1).trans ((if_neg c_2).trans ((if_neg c_13).trans rfl))) dX7_locks_249
        · refine lv_if_eq (tgt := 90) hx hb dX7_locks_79 (by decide) (fun c_11 => ?_) (fun c_11 => ?_)
          · refine lv_iconst (v := 0) hx hb dX7_locks_90 (by decide) ?_
            exact J_10 _ ((if_pos c_11).trans rfl).symm
          · refine lv_iload_n hx hb dX7_locks_82 rfl (lv_at hl 0 rfl) ?_
            refine lv_if_ne (tgt := 90) hx hb dX7_locks_83 (by decide) (fun c_12 => ?_) (fun c_12 => ?_)
            · refine lv_iconst (v := 0) hx hb dX7_locks_90 (by decide) ?_
              exact J_10 _ ((if_neg c_11).trans ((if_neg c_12).trans rfl)).symm
            · refine lv_iconst (v := 1) hx hb dX7_locks_86 (by decide) ?_
              refine lv_goto (tgt := 91) hx hb dX7_locks_87 (by decide) ?_
              exact J_10 _ ((if_neg c_11).trans ((if_pos c_12).trans rfl)).symm
      · refine lv_if_eq (tgt := 72) hx hb dX7_locks_65 (by decide) (fun c_9 => ?_) (fun c_9 => ?_)
        · refine lv_iconst (v := 0) hx hb dX7_locks_72 (by decide) ?_
          exact J_8 _ ((if_pos c_9).trans rfl).symm
        · refine lv_iconst (v := 1) hx hb dX7_locks_68 (by decide) ?_
          refine lv_goto (tgt := 73) hx hb dX7_locks_69 (by decide) ?_
          exact J_8 _ ((if_neg c_9).trans rfl).symm
  by_cases s_15 : x1 = 1
  · refine lv_tableIn (tgt := 97) hx hb dX7_locks_3 (by rw [s_15]; decide) (by rw [s_15]; decide) (by rw [s_15]; rfl) (by decide) ?_
    refine lv_aload_n hx hb dX7_locks_97 rfl (lv_at hl 1 rfl) ?_
    refine kv_i C (c_X7_sets l D cI cZ ad u  hA.2.2.2.2.2.1 hA.2.2.2.2.2.2) (cwV 0 C.2.2.2.2.1 gX7_locks_X7_sets rfl rfl rfl hdX7_sets ⟨Nat.le_of_ble_eq_true rfl, Nat.le_of_ble_eq_true rfl⟩) (ci := 7) (q0 := 0) rfl rfl rfl hP hD hS (sp_self (fun u => (w_7 cI ad u)) 9 (fun _ => rfl)) rfl hl.1 rfl (Nat.le_of_ble_eq_true rfl) dX7_locks_98 ⟨Nat.zero_le _, Nat.zero_le _⟩ (fun H locs hP hD hS => ?_)
    refine lv_istore_n (lv' := [(2, .int _), (0, .ref _), (1, .int _)]) hx hb dX7_locks_101 rfl hl (by decide) rfl (fun ls hl => ?_)
    refine lv_aload_n hx hb dX7_locks_102 rfl (lv_at hl 1 rfl) ?_
    refine lv_aload_n hx hb dX7_locks_103 rfl (lv_at hl 1 rfl) ?_
    refine gt7_21 C hP in_X7_locks_7 ln_X7_locks_1 (v := ((f_X7_sets u).2.1 21)) rfl dX7_locks_104 ?_
    refine jn_i (g := fun x => F0 m 124 ls (.int x :: [.ref (ad 0)])) ((if ((f_X7_sets u).2.1 21) = 0 then (if (f_X7_sets u).1 = 0 then 0 else (if x1 = 5 then 1 else 0)) else 1)) (fun y_17 ey_17 => ?_) (fun J_17 => ?_)
    · refine pt7_21 C hP hD hS in_X7_locks_7 ln_X7_locks_1 (ey_17 ▸ (bz_ite (bz_ite (Or.inl rfl) (bz_ite (Or.inr rfl) (Or.inl rfl))) (Or.inr rfl))) dX7_locks_124 (fun H locs hP hD hS => ?_)
      refine lv_goto (tgt := 235) hx hb dX7_locks_127 (by decide) ?_
      refine lv_iload_n hx hb dX7_locks_235 rfl (lv_at hl 0 rfl) ?_
      refine lv_if_eq (tgt := 243) hx hb dX7_locks_236 (by decide) (fun c_21 => ?_) (fun c_21 => ?_)
      · refine lv_aload_n hx hb dX7_locks_243 rfl (lv_at hl 1 rfl) ?_
        refine lv_bipush (v := 16) hx hb dX7_locks_244 (by decide) ?_
        refine kv_i C (c_X7_noting l D cI cZ ad (ob_i (f_X7_sets u).2 21 y_17) 16 ) (cwV 1 C.2.2.2.2.1 gX7_locks_X7_noting rfl rfl rfl hdX7_noting ⟨Nat.le_of_ble_eq_true rfl, Nat.le_of_ble_eq_true rfl⟩) (ci := 7) (q0 := 0) rfl rfl rfl hP hD hS (sp_self (fun u => (w_7 cI ad u)) 9 (fun _ => rfl)) rfl hl.1 rfl (Nat.le_of_ble_eq_true rfl) dX7_locks_246 ⟨Nat.zero_le _, Nat.zero_le _⟩ (fun H locs hP hD hS => ?_)
        subst ey_17
        exact rt_i C hr hlk hP hD hS ((if_neg s_1).trans ((if_pos s_15).trans ((if_pos c_21).trans rfl))) dX7_locks_249
      · refine lv_iconst (v := 1) hx hb dX7_locks_239 (by decide) ?_
        refine lv_goto (tgt := 249) hx hb dX7_locks_240 (by decide) ?_
        subst ey_17
        exact rt_i C hr hlk hP hD hS ((if_neg s_1).trans ((if_pos s_15).trans ((if_neg c_21).trans rfl))) dX7_locks_249
    · refine lv_if_ne (tgt := 119) hx hb dX7_locks_107 (by decide) (fun c_18 => ?_) (fun c_18 => ?_)
      · refine lv_iconst (v := 1) hx hb dX7_locks_119 (by decide) ?_
        refine lv_goto (tgt := 124) hx hb dX7_locks_120 (by decide) ?_
        exact J_17 _ ((if_neg c_18).trans rfl).symm
      · refine lv_iload_n hx hb dX7_locks_110 rfl (lv_at hl 0 rfl) ?_
        refine lv_if_eq (tgt := 123) hx hb dX7_locks_111 (by decide) (fun c_19 => ?_) (fun c_19 => ?_)
        · refine lv_iconst (v := 0) hx hb dX7_locks_123 (by decide) ?_
          exact J_17 _ ((if_pos c_18).trans ((if_pos c_19).trans rfl)).symm
        · refine lv_iload_n hx hb dX7_locks_114 rfl (lv_at hl 2 rfl) ?_
          refine lv_iconst (v := 5) hx hb dX7_locks_115 (by decide) ?_
          refine lv_icmp_ne (tgt := 123) hx hb dX7_locks_116 (by decide) (fun c_20 => ?_) (fun c_20 => ?_)
          · refine lv_iconst (v := 0) hx hb dX7_locks_123 (by decide) ?_
            exact J_17 _ ((if_pos c_18).trans ((if_neg c_19).trans ((if_neg c_20).trans rfl))).symm
          · refine lv_iconst (v := 1) hx hb dX7_locks_119 (by decide) ?_
            refine lv_goto (tgt := 124) hx hb dX7_locks_120 (by decide) ?_
            exact J_17 _ ((if_pos c_18).trans ((if_neg c_19).trans ((if_pos c_20).trans rfl))).symm
  by_cases s_23 : x1 = 2
  · refine lv_tableIn (tgt := 130) hx hb dX7_locks_3 (by rw [s_23]; decide) (by rw [s_23]; decide) (by rw [s_23]; rfl) (by decide) ?_
    refine lv_aload_n hx hb dX7_locks_130 rfl (lv_at hl 1 rfl) ?_
    refine gt7_21 C hP in_X7_locks_7 ln_X7_locks_1 (v := (u.1 21)) rfl dX7_locks_131 ?_
    refine lv_if_ne (tgt := 157) hx hb dX7_locks_134 (by decide) (fun c_24 => ?_) (fun c_24 => ?_)
    · refine lv_iconst (v := 0) hx hb dX7_locks_157 (by decide) ?_
      refine lv_istore_n (lv' := [(2, .int _), (0, .ref _), (1, .int _)]) hx hb dX7_locks_158 rfl hl (by decide) rfl (fun ls hl => ?_)
      refine lv_aload_n hx hb dX7_locks_159 rfl (lv_at hl 1 rfl) ?_
      refine lv_aload_n hx hb dX7_locks_160 rfl (lv_at hl 1 rfl) ?_
      refine gt7_21 C hP in_X7_locks_7 ln_X7_locks_1 (v := (u.1 21)) rfl dX7_locks_161 ?_
      refine jn_i (g := fun x => F0 m 181 ls (.int x :: [.ref (ad 0)])) ((if (u.1 21) = 0 then 0 else 1)) (fun y_25 ey_25 => ?_) (fun J_25 => ?_)
      · refine pt7_21 C hP hD hS in_X7_locks_7 ln_X7_locks_1 (ey_25 ▸ (bz_ite (Or.inl rfl) (Or.inr rfl))) dX7_locks_181 (fun H locs hP hD hS => ?_)
        refine lv_aload_n hx hb dX7_locks_184 rfl (lv_at hl 1 rfl) ?_
        refine lv_iload_n hx hb dX7_locks_185 rfl (lv_at hl 0 rfl) ?_
        refine jn_i (g := fun x => F0 m 202 ls (.int x :: [.ref (ad 0)])) ((u.1 11)) (fun y_28 ey_28 => ?_) (fun J_28 => ?_)
        · refine pt7_11 C hP hD hS in_X7_locks_7 ln_X7_locks_2 dX7_locks_202 (fun H locs hP hD hS => ?_)
          refine lv_goto (tgt := 235) hx hb dX7_locks_205 (by decide) ?_
          refine lv_iload_n hx hb dX7_locks_235 rfl (lv_at hl 0 rfl) ?_
          refine lv_if_eq (tgt := 243) hx hb dX7_locks_236 (by decide) (fun c_30 => ?_) (fun c_30 => ?_)
          · refine lv_aload_n hx hb dX7_locks_243 rfl (lv_at hl 1 rfl) ?_
            refine lv_bipush (v := 16) hx hb dX7_locks_244 (by decide) ?_
            refine kv_i C (c_X7_noting l D cI cZ ad (ob_i (ob_i u 21 y_25) 11 y_28) 16 ) (cwV 1 C.2.2.2.2.1 gX7_locks_X7_noting rfl rfl rfl hdX7_noting ⟨Nat.le_of_ble_eq_true rfl, Nat.le_of_ble_eq_true rfl⟩) (ci := 7) (q0 := 0) rfl rfl rfl hP hD hS (sp_self (fun u => (w_7 cI ad u)) 9 (fun _ => rfl)) rfl hl.1 rfl (Nat.le_of_ble_eq_true rfl) dX7_locks_246 ⟨Nat.zero_le _, Nat.zero_le _⟩ (fun H locs hP hD hS => ?_)
            subst ey_25 ey_28
            exact rt_i C hr hlk hP hD hS ((if_neg s_1).trans ((if_neg s_15).trans ((if_pos s_23).trans ((if_neg c_24).trans rfl)))) dX7_locks_249
          · exact absurd (by decide) c_30
        · refine lv_if_eq (tgt := 198) hx hb dX7_locks_186 (by decide) (fun c_29 => ?_) (fun c_29 => ?_)
          · refine lv_aload_n hx hb dX7_locks_198 rfl (lv_at hl 1 rfl) ?_
            refine gt7_11 C hP in_X7_locks_7 ln_X7_locks_2 (v := (u.1 11)) rfl dX7_locks_199 ?_
            exact J_28 _ rfl.symm
          · exact absurd (by decide) c_29
      · refine lv_if_ne (tgt := 176) hx hb dX7_locks_164 (by decide) (fun c_26 => ?_) (fun c_26 => ?_)
        · refine lv_iconst (v := 1) hx hb dX7_locks_176 (by decide) ?_
          refine lv_goto (tgt := 181) hx hb dX7_locks_177 (by decide) ?_
          exact J_25 _ ((if_neg c_26).trans rfl).symm
        · refine lv_iload_n hx hb dX7_locks_167 rfl (lv_at hl 0 rfl) ?_
          refine lv_if_eq (tgt := 180) hx hb dX7_locks_168 (by decide) (fun c_27 => ?_) (fun c_27 => ?_)
          · refine lv_iconst (v := 0) hx hb dX7_locks_180 (by decide) ?_
            exact J_25 _ ((if_pos c_26).trans rfl).symm
          · exact absurd (by decide) c_27
    · refine lv_aload_n hx hb dX7_locks_137 rfl (lv_at hl 1 rfl) ?_
      refine gt7_11 C hP in_X7_locks_7 ln_X7_locks_2 (v := (u.1 11)) rfl dX7_locks_138 ?_
      refine lv_if_le (tgt := 157) hx hb dX7_locks_141 (by decide) (fun c_32 => ?_) (fun c_32 => ?_)
      · refine lv_iconst (v := 0) hx hb dX7_locks_157 (by decide) ?_
        refine lv_istore_n (lv' := [(2, .int _), (0, .ref _), (1, .int _)]) hx hb dX7_locks_158 rfl hl (by decide) rfl (fun ls hl => ?_)
        refine lv_aload_n hx hb dX7_locks_159 rfl (lv_at hl 1 rfl) ?_
        refine lv_aload_n hx hb dX7_locks_160 rfl (lv_at hl 1 rfl) ?_
        refine gt7_21 C hP in_X7_locks_7 ln_X7_locks_1 (v := (u.1 21)) rfl dX7_locks_161 ?_
        refine jn_i (g := fun x => F0 m 181 ls (.int x :: [.ref (ad 0)])) ((if (u.1 21) = 0 then 0 else 1)) (fun y_33 ey_33 => ?_) (fun J_33 => ?_)
        · refine pt7_21 C hP hD hS in_X7_locks_7 ln_X7_locks_1 (ey_33 ▸ (bz_ite (Or.inl rfl) (Or.inr rfl))) dX7_locks_181 (fun H locs hP hD hS => ?_)
          refine lv_aload_n hx hb dX7_locks_184 rfl (lv_at hl 1 rfl) ?_
          refine lv_iload_n hx hb dX7_locks_185 rfl (lv_at hl 0 rfl) ?_
          refine jn_i (g := fun x => F0 m 202 ls (.int x :: [.ref (ad 0)])) ((u.1 11)) (fun y_36 ey_36 => ?_) (fun J_36 => ?_)
          · refine pt7_11 C hP hD hS in_X7_locks_7 ln_X7_locks_2 dX7_locks_202 (fun H locs hP hD hS => ?_)
            refine lv_goto (tgt := 235) hx hb dX7_locks_205 (by decide) ?_
            refine lv_iload_n hx hb dX7_locks_235 rfl (lv_at hl 0 rfl) ?_
            refine lv_if_eq (tgt := 243) hx hb dX7_locks_236 (by decide) (fun c_38 => ?_) (fun c_38 => ?_)
            · refine lv_aload_n hx hb dX7_locks_243 rfl (lv_at hl 1 rfl) ?_
              refine lv_bipush (v := 16) hx hb dX7_locks_244 (by decide) ?_
              refine kv_i C (c_X7_noting l D cI cZ ad (ob_i (ob_i u 21 y_33) 11 y_36) 16 ) (cwV 1 C.2.2.2.2.1 gX7_locks_X7_noting rfl rfl rfl hdX7_noting ⟨Nat.le_of_ble_eq_true rfl, Nat.le_of_ble_eq_true rfl⟩) (ci := 7) (q0 := 0) rfl rfl rfl hP hD hS (sp_self (fun u => (w_7 cI ad u)) 9 (fun _ => rfl)) rfl hl.1 rfl (Nat.le_of_ble_eq_true rfl) dX7_locks_246 ⟨Nat.zero_le _, Nat.zero_le _⟩ (fun H locs hP hD hS => ?_)
              subst ey_33 ey_36
              exact rt_i C hr hlk hP hD hS ((if_neg s_1).trans ((if_neg s_15).trans ((if_pos s_23).trans ((if_pos c_24).trans ((if_pos c_32).trans rfl))))) dX7_locks_249
            · exact absurd (by decide) c_38
          · refine lv_if_eq (tgt := 198) hx hb dX7_locks_186 (by decide) (fun c_37 => ?_) (fun c_37 => ?_)
            · refine lv_aload_n hx hb dX7_locks_198 rfl (lv_at hl 1 rfl) ?_
              refine gt7_11 C hP in_X7_locks_7 ln_X7_locks_2 (v := (u.1 11)) rfl dX7_locks_199 ?_
              exact J_36 _ rfl.symm
            · exact absurd (by decide) c_37
        · refine lv_if_ne (tgt := 176) hx hb dX7_locks_164 (by decide) (fun c_34 => ?_) (fun c_34 => ?_)
          · refine lv_iconst (v := 1) hx hb dX7_locks_176 (by decide) ?_
            refine lv_goto (tgt := 181) hx hb dX7_locks_177 (by decide) ?_
            exact J_33 _ ((if_neg c_34).trans rfl).symm
          · refine lv_iload_n hx hb dX7_locks_167 rfl (lv_at hl 0 rfl) ?_
            refine lv_if_eq (tgt := 180) hx hb dX7_locks_168 (by decide) (fun c_35 => ?_) (fun c_35 => ?_)
            · refine lv_iconst (v := 0) hx hb dX7_locks_180 (by decide) ?_
              exact J_33 _ ((if_pos c_34).trans rfl).symm
            · exact absurd (by decide) c_35
      · refine lv_aload_n hx hb dX7_locks_144 rfl (lv_at hl 1 rfl) ?_
        refine lv_iconst (v := 0) hx hb dX7_locks_145 (by decide) ?_
        refine lv_iconst (v := 0) hx hb dX7_locks_146 (by decide) ?_
        refine kv_p C (c_X7_isWord l D cI cZ ad u 0 0 hA.2.2.2.2.2.1.2) (cwV 2 C.2.2.2.2.1 gX7_locks_X7_isWord rfl rfl rfl hdX7_isWord ⟨Nat.le_of_ble_eq_true rfl, Nat.le_of_ble_eq_true rfl⟩) (ci := 7) (q0 := 0) rfl rfl rfl hP hD hS (su_self _) rfl hl.1 rfl (Nat.le_of_ble_eq_true rfl) dX7_locks_147 ⟨Nat.zero_le _, Nat.zero_le _⟩ (fun H locs hP hS => ?_)
        refine jn_i (g := fun x => F0 m 158 ls (.int x :: [])) ((if (f_X7_isWord u 0 0) = 0 then 0 else 1)) (fun y_40 ey_40 => ?_) (fun J_40 => ?_)
        · refine lv_istore_n (lv' := [(2, .int _), (0, .ref _), (1, .int _)]) hx hb dX7_locks_158 rfl hl (by decide) rfl (fun ls hl => ?_)
          refine lv_aload_n hx hb dX7_locks_159 rfl (lv_at hl 1 rfl) ?_
          refine lv_aload_n hx hb dX7_locks_160 rfl (lv_at hl 1 rfl) ?_
          refine gt7_21 C hP in_X7_locks_7 ln_X7_locks_1 (v := (u.1 21)) rfl dX7_locks_161 ?_
          refine jn_i (g := fun x => F0 m 181 ls (.int x :: [.ref (ad 0)])) ((if (u.1 21) = 0 then (if y_40 = 0 then 0 else (if x1 = 4 then 1 else 0)) else 1)) (fun y_42 ey_42 => ?_) (fun J_42 => ?_)
          · refine pt7_21 C hP hD hS in_X7_locks_7 ln_X7_locks_1 (ey_42 ▸ (bz_ite (bz_ite (Or.inl rfl) (bz_ite (Or.inr rfl) (Or.inl rfl))) (Or.inr rfl))) dX7_locks_181 (fun H locs hP hD hS => ?_)
            refine lv_aload_n hx hb dX7_locks_184 rfl (lv_at hl 1 rfl) ?_
            refine lv_iload_n hx hb dX7_locks_185 rfl (lv_at hl 0 rfl) ?_
            refine jn_i (g := fun x => F0 m 202 ls (.int x :: [.ref (ad 0)])) ((if y_40 = 0 then (u.1 11) else (if x1 = 2 then 0 else (u.1 11)))) (fun y_46 ey_46 => ?_) (fun J_46 => ?_)
            · refine pt7_11 C hP hD hS in_X7_locks_7 ln_X7_locks_2 dX7_locks_202 (fun H locs hP hD hS => ?_)
              refine lv_goto (tgt := 235) hx hb dX7_locks_205 (by decide) ?_
              refine lv_iload_n hx hb dX7_locks_235 rfl (lv_at hl 0 rfl) ?_
              refine lv_if_eq (tgt := 243) hx hb dX7_locks_236 (by decide) (fun c_49 => ?_) (fun c_49 => ?_)
              · refine lv_aload_n hx hb dX7_locks_243 rfl (lv_at hl 1 rfl) ?_
                refine lv_bipush (v := 16) hx hb dX7_locks_244 (by decide) ?_
                refine kv_i C (c_X7_noting l D cI cZ ad (ob_i (ob_i u 21 y_42) 11 y_46) 16 ) (cwV 1 C.2.2.2.2.1 gX7_locks_X7_noting rfl rfl rfl hdX7_noting ⟨Nat.le_of_ble_eq_true rfl, Nat.le_of_ble_eq_true rfl⟩) (ci := 7) (q0 := 0) rfl rfl rfl hP hD hS (sp_self (fun u => (w_7 cI ad u)) 9 (fun _ => rfl)) rfl hl.1 rfl (Nat.le_of_ble_eq_true rfl) dX7_locks_246 ⟨Nat.zero_le _, Nat.zero_le _⟩ (fun H locs hP hD hS => ?_)
                subst ey_40 ey_42 ey_46
                exact rt_i C hr hlk hP hD hS ((if_neg s_1).trans ((if_neg s_15).trans ((if_pos s_23).trans ((if_pos c_24).trans ((if_neg c_32).trans ((if_pos c_49).trans rfl)))))) dX7_locks_249
              · refine lv_iconst (v := 1) hx hb dX7_locks_239 (by decide) ?_
                refine lv_goto (tgt := 249) hx hb dX7_locks_240 (by decide) ?_
                subst ey_40 ey_42 ey_46
                exact rt_i C hr hlk hP hD hS ((if_neg s_1).trans ((if_neg s_15).trans ((if_pos s_23).trans ((if_pos c_24).trans ((if_neg c_32).trans ((if_neg c_49).trans rfl)))))) dX7_locks_249
            · refine lv_if_eq (tgt := 198) hx hb dX7_locks_186 (by decide) (fun c_47 => ?_) (fun c_47 => ?_)
              · refine lv_aload_n hx hb dX7_locks_198 rfl (lv_at hl 1 rfl) ?_
                refine gt7_11 C hP in_X7_locks_7 ln_X7_locks_2 (v := (u.1 11)) rfl dX7_locks_199 ?_
                exact J_46 _ ((if_pos c_47).trans rfl).symm
              · refine lv_iload_n hx hb dX7_locks_189 rfl (lv_at hl 2 rfl) ?_
                refine lv_iconst (v := 2) hx hb dX7_locks_190 (by decide) ?_
                refine lv_icmp_ne (tgt := 198) hx hb dX7_locks_191 (by decide) (fun c_48 => ?_) (fun c_48 => ?_)
                · refine lv_aload_n hx hb dX7_locks_198 rfl (lv_at hl 1 rfl) ?_
                  refine gt7_11 C hP in_X7_locks_7 ln_X7_locks_2 (v := (u.1 11)) rfl dX7_locks_199 ?_
                  exact J_46 _ ((if_neg c_47).trans ((if_neg c_48).trans rfl)).symm
                · refine lv_iconst (v := 0) hx hb dX7_locks_194 (by decide) ?_
                  refine lv_goto (tgt := 202) hx hb dX7_locks_195 (by decide) ?_
                  exact J_46 _ ((if_neg c_47).trans ((if_pos c_48).trans rfl)).symm
          · refine lv_if_ne (tgt := 176) hx hb dX7_locks_164 (by decide) (fun c_43 => ?_) (fun c_43 => ?_)
            · refine lv_iconst (v := 1) hx hb dX7_locks_176 (by decide) ?_
              refine lv_goto (tgt := 181) hx hb dX7_locks_177 (by decide) ?_
              exact J_42 _ ((if_neg c_43).trans rfl).symm
            · refine lv_iload_n hx hb dX7_locks_167 rfl (lv_at hl 0 rfl) ?_
              refine lv_if_eq (tgt := 180) hx hb dX7_locks_168 (by decide) (fun c_44 => ?_) (fun c_44 => ?_)
              · refine lv_iconst (v := 0) hx hb dX7_locks_180 (by decide) ?_
                exact J_42 _ ((if_pos c_43).trans ((if_pos c_44).trans rfl)).symm
              · refine lv_iload_n hx hb dX7_locks_171 rfl (lv_at hl 2 rfl) ?_
                refine lv_iconst (v := 4) hx hb dX7_locks_172 (by decide) ?_
                refine lv_icmp_ne (tgt := 180) hx hb dX7_locks_173 (by decide) (fun c_45 => ?_) (fun c_45 => ?_)
                · refine lv_iconst (v := 0) hx hb dX7_locks_180 (by decide) ?_
                  exact J_42 _ ((if_pos c_43).trans ((if_neg c_44).trans ((if_neg c_45).trans rfl))).symm
                · refine lv_iconst (v := 1) hx hb dX7_locks_176 (by decide) ?_
                  refine lv_goto (tgt := 181) hx hb dX7_locks_177 (by decide) ?_
                  exact J_42 _ ((if_pos c_43).trans ((if_neg c_44).trans ((if_pos c_45).trans rfl))).symm
        · refine lv_if_eq (tgt := 157) hx hb dX7_locks_150 (by decide) (fun c_41 => ?_) (fun c_41 => ?_)
          · refine lv_iconst (v := 0) hx hb dX7_locks_157 (by decide) ?_
            exact J_40 _ ((if_pos c_41).trans rfl).symm
          · refine lv_iconst (v := 1) hx hb dX7_locks_153 (by decide) ?_
            refine lv_goto (tgt := 158) hx hb dX7_locks_154 (by decide) ?_
            exact J_40 _ ((if_neg c_41).trans rfl).symm
  by_cases s_51 : x1 = 4
  · refine lv_tableIn (tgt := 130) hx hb dX7_locks_3 (by rw [s_51]; decide) (by rw [s_51]; decide) (by rw [s_51]; rfl) (by decide) ?_
    refine lv_aload_n hx hb dX7_locks_130 rfl (lv_at hl 1 rfl) ?_
    refine gt7_21 C hP in_X7_locks_7 ln_X7_locks_1 (v := (u.1 21)) rfl dX7_locks_131 ?_
    refine lv_if_ne (tgt := 157) hx hb dX7_locks_134 (by decide) (fun c_52 => ?_) (fun c_52 => ?_)
    · refine lv_iconst (v := 0) hx hb dX7_locks_157 (by decide) ?_
      refine lv_istore_n (lv' := [(2, .int _), (0, .ref _), (1, .int _)]) hx hb dX7_locks_158 rfl hl (by decide) rfl (fun ls hl => ?_)
      refine lv_aload_n hx hb dX7_locks_159 rfl (lv_at hl 1 rfl) ?_
      refine lv_aload_n hx hb dX7_locks_160 rfl (lv_at hl 1 rfl) ?_
      refine gt7_21 C hP in_X7_locks_7 ln_X7_locks_1 (v := (u.1 21)) rfl dX7_locks_161 ?_
      refine jn_i (g := fun x => F0 m 181 ls (.int x :: [.ref (ad 0)])) ((if (u.1 21) = 0 then 0 else 1)) (fun y_53 ey_53 => ?_) (fun J_53 => ?_)
      · refine pt7_21 C hP hD hS in_X7_locks_7 ln_X7_locks_1 (ey_53 ▸ (bz_ite (Or.inl rfl) (Or.inr rfl))) dX7_locks_181 (fun H locs hP hD hS => ?_)
        refine lv_aload_n hx hb dX7_locks_184 rfl (lv_at hl 1 rfl) ?_
        refine lv_iload_n hx hb dX7_locks_185 rfl (lv_at hl 0 rfl) ?_
        refine jn_i (g := fun x => F0 m 202 ls (.int x :: [.ref (ad 0)])) ((u.1 11)) (fun y_56 ey_56 => ?_) (fun J_56 => ?_)
        · refine pt7_11 C hP hD hS in_X7_locks_7 ln_X7_locks_2 dX7_locks_202 (fun H locs hP hD hS => ?_)
          refine lv_goto (tgt := 235) hx hb dX7_locks_205 (by decide) ?_
          refine lv_iload_n hx hb dX7_locks_235 rfl (lv_at hl 0 rfl) ?_
          refine lv_if_eq (tgt := 243) hx hb dX7_locks_236 (by decide) (fun c_58 => ?_) (fun c_58 => ?_)
          · refine lv_aload_n hx hb dX7_locks_243 rfl (lv_at hl 1 rfl) ?_
            refine lv_bipush (v := 16) hx hb dX7_locks_244 (by decide) ?_
            refine kv_i C (c_X7_noting l D cI cZ ad (ob_i (ob_i u 21 y_53) 11 y_56) 16 ) (cwV 1 C.2.2.2.2.1 gX7_locks_X7_noting rfl rfl rfl hdX7_noting ⟨Nat.le_of_ble_eq_true rfl, Nat.le_of_ble_eq_true rfl⟩) (ci := 7) (q0 := 0) rfl rfl rfl hP hD hS (sp_self (fun u => (w_7 cI ad u)) 9 (fun _ => rfl)) rfl hl.1 rfl (Nat.le_of_ble_eq_true rfl) dX7_locks_246 ⟨Nat.zero_le _, Nat.zero_le _⟩ (fun H locs hP hD hS => ?_)
            subst ey_53 ey_56
            exact rt_i C hr hlk hP hD hS ((if_neg s_1).trans ((if_neg s_15).trans ((if_neg s_23).trans ((if_pos s_51).trans ((if_neg c_52).trans rfl))))) dX7_locks_249
          · exact absurd (by decide) c_58
        · refine lv_if_eq (tgt := 198) hx hb dX7_locks_186 (by decide) (fun c_57 => ?_) (fun c_57 => ?_)
          · refine lv_aload_n hx hb dX7_locks_198 rfl (lv_at hl 1 rfl) ?_
            refine gt7_11 C hP in_X7_locks_7 ln_X7_locks_2 (v := (u.1 11)) rfl dX7_locks_199 ?_
            exact J_56 _ rfl.symm
          · exact absurd (by decide) c_57
      · refine lv_if_ne (tgt := 176) hx hb dX7_locks_164 (by decide) (fun c_54 => ?_) (fun c_54 => ?_)
        · refine lv_iconst (v := 1) hx hb dX7_locks_176 (by decide) ?_
          refine lv_goto (tgt := 181) hx hb dX7_locks_177 (by decide) ?_
          exact J_53 _ ((if_neg c_54).trans rfl).symm
        · refine lv_iload_n hx hb dX7_locks_167 rfl (lv_at hl 0 rfl) ?_
          refine lv_if_eq (tgt := 180) hx hb dX7_locks_168 (by decide) (fun c_55 => ?_) (fun c_55 => ?_)
          · refine lv_iconst (v := 0) hx hb dX7_locks_180 (by decide) ?_
            exact J_53 _ ((if_pos c_54).trans rfl).symm
          · exact absurd (by decide) c_55
    · refine lv_aload_n hx hb dX7_locks_137 rfl (lv_at hl 1 rfl) ?_
      refine gt7_11 C hP in_X7_locks_7 ln_X7_locks_2 (v := (u.1 11)) rfl dX7_locks_138 ?_
      refine lv_if_le (tgt := 157) hx hb dX7_locks_141 (by decide) (fun c_60 => ?_) (fun c_60 => ?_)
      · refine lv_iconst (v := 0) hx hb dX7_locks_157 (by decide) ?_
        refine lv_istore_n (lv' := [(2, .int _), (0, .ref _), (1, .int _)]) hx hb dX7_locks_158 rfl hl (by decide) rfl (fun ls hl => ?_)
        refine lv_aload_n hx hb dX7_locks_159 rfl (lv_at hl 1 rfl) ?_
        refine lv_aload_n hx hb dX7_locks_160 rfl (lv_at hl 1 rfl) ?_
        refine gt7_21 C hP in_X7_locks_7 ln_X7_locks_1 (v := (u.1 21)) rfl dX7_locks_161 ?_
        refine jn_i (g := fun x => F0 m 181 ls (.int x :: [.ref (ad 0)])) ((if (u.1 21) = 0 then 0 else 1)) (fun y_61 ey_61 => ?_) (fun J_61 => ?_)
        · refine pt7_21 C hP hD hS in_X7_locks_7 ln_X7_locks_1 (ey_61 ▸ (bz_ite (Or.inl rfl) (Or.inr rfl))) dX7_locks_181 (fun H locs hP hD hS => ?_)
          refine lv_aload_n hx hb dX7_locks_184 rfl (lv_at hl 1 rfl) ?_
          refine lv_iload_n hx hb dX7_locks_185 rfl (lv_at hl 0 rfl) ?_
          refine jn_i (g := fun x => F0 m 202 ls (.int x :: [.ref (ad 0)])) ((u.1 11)) (fun y_64 ey_64 => ?_) (fun J_64 => ?_)
          · refine pt7_11 C hP hD hS in_X7_locks_7 ln_X7_locks_2 dX7_locks_202 (fun H locs hP hD hS => ?_)
            refine lv_goto (tgt := 235) hx hb dX7_locks_205 (by decide) ?_
            refine lv_iload_n hx hb dX7_locks_235 rfl (lv_at hl 0 rfl) ?_
            refine lv_if_eq (tgt := 243) hx hb dX7_locks_236 (by decide) (fun c_66 => ?_) (fun c_66 => ?_)
            · refine lv_aload_n hx hb dX7_locks_243 rfl (lv_at hl 1 rfl) ?_
              refine lv_bipush (v := 16) hx hb dX7_locks_244 (by decide) ?_
              refine kv_i C (c_X7_noting l D cI cZ ad (ob_i (ob_i u 21 y_61) 11 y_64) 16 ) (cwV 1 C.2.2.2.2.1 gX7_locks_X7_noting rfl rfl rfl hdX7_noting ⟨Nat.le_of_ble_eq_true rfl, Nat.le_of_ble_eq_true rfl⟩) (ci := 7) (q0 := 0) rfl rfl rfl hP hD hS (sp_self (fun u => (w_7 cI ad u)) 9 (fun _ => rfl)) rfl hl.1 rfl (Nat.le_of_ble_eq_true rfl) dX7_locks_246 ⟨Nat.zero_le _, Nat.zero_le _⟩ (fun H locs hP hD hS => ?_)
              subst ey_61 ey_64
              exact rt_i C hr hlk hP hD hS ((if_neg s_1).trans ((if_neg s_15).trans ((if_neg s_23).trans ((if_pos s_51).trans ((if_pos c_52).trans ((if_pos c_60).trans rfl)))))) dX7_locks_249
            · exact absurd (by decide) c_66
          · refine lv_if_eq (tgt := 198) hx hb dX7_locks_186 (by decide) (fun c_65 => ?_) (fun c_65 => ?_)
            · refine lv_aload_n hx hb dX7_locks_198 rfl (lv_at hl 1 rfl) ?_
              refine gt7_11 C hP in_X7_locks_7 ln_X7_locks_2 (v := (u.1 11)) rfl dX7_locks_199 ?_
              exact J_64 _ rfl.symm
            · exact absurd (by decide) c_65
        · refine lv_if_ne (tgt := 176) hx hb dX7_locks_164 (by decide) (fun c_62 => ?_) (fun c_62 => ?_)
          · refine lv_iconst (v := 1) hx hb dX7_locks_176 (by decide) ?_
            refine lv_goto (tgt := 181) hx hb dX7_locks_177 (by decide) ?_
            exact J_61 _ ((if_neg c_62).trans rfl).symm
          · refine lv_iload_n hx hb dX7_locks_167 rfl (lv_at hl 0 rfl) ?_
            refine lv_if_eq (tgt := 180) hx hb dX7_locks_168 (by decide) (fun c_63 => ?_) (fun c_63 => ?_)
            · refine lv_iconst (v := 0) hx hb dX7_locks_180 (by decide) ?_
              exact J_61 _ ((if_pos c_62).trans rfl).symm
            · exact absurd (by decide) c_63
      · refine lv_aload_n hx hb dX7_locks_144 rfl (lv_at hl 1 rfl) ?_
        refine lv_iconst (v := 0) hx hb dX7_locks_145 (by decide) ?_
        refine lv_iconst (v := 0) hx hb dX7_locks_146 (by decide) ?_
        refine kv_p C (c_X7_isWord l D cI cZ ad u 0 0 hA.2.2.2.2.2.1.2) (cwV 2 C.2.2.2.2.1 gX7_locks_X7_isWord rfl rfl rfl hdX7_isWord ⟨Nat.le_of_ble_eq_true rfl, Nat.le_of_ble_eq_true rfl⟩) (ci := 7) (q0 := 0) rfl rfl rfl hP hD hS (su_self _) rfl hl.1 rfl (Nat.le_of_ble_eq_true rfl) dX7_locks_147 ⟨Nat.zero_le _, Nat.zero_le _⟩ (fun H locs hP hS => ?_)
        refine jn_i (g := fun x => F0 m 158 ls (.int x :: [])) ((if (f_X7_isWord u 0 0) = 0 then 0 else 1)) (fun y_68 ey_68 => ?_) (fun J_68 => ?_)
        · refine lv_istore_n (lv' := [(2, .int _), (0, .ref _), (1, .int _)]) hx hb dX7_locks_158 rfl hl (by decide) rfl (fun ls hl => ?_)
          refine lv_aload_n hx hb dX7_locks_159 rfl (lv_at hl 1 rfl) ?_
          refine lv_aload_n hx hb dX7_locks_160 rfl (lv_at hl 1 rfl) ?_
          refine gt7_21 C hP in_X7_locks_7 ln_X7_locks_1 (v := (u.1 21)) rfl dX7_locks_161 ?_
          refine jn_i (g := fun x => F0 m 181 ls (.int x :: [.ref (ad 0)])) ((if (u.1 21) = 0 then (if y_68 = 0 then 0 else (if x1 = 4 then 1 else 0)) else 1)) (fun y_70 ey_70 => ?_) (fun J_70 => ?_)
          · refine pt7_21 C hP hD hS in_X7_locks_7 ln_X7_locks_1 (ey_70 ▸ (bz_ite (bz_ite (Or.inl rfl) (bz_ite (Or.inr rfl) (Or.inl rfl))) (Or.inr rfl))) dX7_locks_181 (fun H locs hP hD hS => ?_)
            refine lv_aload_n hx hb dX7_locks_184 rfl (lv_at hl 1 rfl) ?_
            refine lv_iload_n hx hb dX7_locks_185 rfl (lv_at hl 0 rfl) ?_
            refine jn_i (g := fun x => F0 m 202 ls (.int x :: [.ref (ad 0)])) ((if y_68 = 0 then (u.1 11) else (if x1 = 2 then 0 else (u.1 11)))) (fun y_74 ey_74 => ?_) (fun J_74 => ?_)
            · refine pt7_11 C hP hD hS in_X7_locks_7 ln_X7_locks_2 dX7_locks_202 (fun H locs hP hD hS => ?_)
              refine lv_goto (tgt := 235) hx hb dX7_locks_205 (by decide) ?_
              refine lv_iload_n hx hb dX7_locks_235 rfl (lv_at hl 0 rfl) ?_
              refine lv_if_eq (tgt := 243) hx hb dX7_locks_236 (by decide) (fun c_77 => ?_) (fun c_77 => ?_)
              · refine lv_aload_n hx hb dX7_locks_243 rfl (lv_at hl 1 rfl) ?_
                refine lv_bipush (v := 16) hx hb dX7_locks_244 (by decide) ?_
                refine kv_i C (c_X7_noting l D cI cZ ad (ob_i (ob_i u 21 y_70) 11 y_74) 16 ) (cwV 1 C.2.2.2.2.1 gX7_locks_X7_noting rfl rfl rfl hdX7_noting ⟨Nat.le_of_ble_eq_true rfl, Nat.le_of_ble_eq_true rfl⟩) (ci := 7) (q0 := 0) rfl rfl rfl hP hD hS (sp_self (fun u => (w_7 cI ad u)) 9 (fun _ => rfl)) rfl hl.1 rfl (Nat.le_of_ble_eq_true rfl) dX7_locks_246 ⟨Nat.zero_le _, Nat.zero_le _⟩ (fun H locs hP hD hS => ?_)
                subst ey_68 ey_70 ey_74
                exact rt_i C hr hlk hP hD hS ((if_neg s_1).trans ((if_neg s_15).trans ((if_neg s_23).trans ((if_pos s_51).trans ((if_pos c_52).trans ((if_neg c_60).trans ((if_pos c_77).trans rfl))))))) dX7_locks_249
              · refine lv_iconst (v := 1) hx hb dX7_locks_239 (by decide) ?_
                refine lv_goto (tgt := 249) hx hb dX7_locks_240 (by decide) ?_
                subst ey_68 ey_70 ey_74
                exact rt_i C hr hlk hP hD hS ((if_neg s_1).trans ((if_neg s_15).trans ((if_neg s_23).trans ((if_pos s_51).trans ((if_pos c_52).trans ((if_neg c_60).trans ((if_neg c_77).trans rfl))))))) dX7_locks_249
            · refine lv_if_eq (tgt := 198) hx hb dX7_locks_186 (by decide) (fun c_75 => ?_) (fun c_75 => ?_)
              · refine lv_aload_n hx hb dX7_locks_198 rfl (lv_at hl 1 rfl) ?_
                refine gt7_11 C hP in_X7_locks_7 ln_X7_locks_2 (v := (u.1 11)) rfl dX7_locks_199 ?_
                exact J_74 _ ((if_pos c_75).trans rfl).symm
              · refine lv_iload_n hx hb dX7_locks_189 rfl (lv_at hl 2 rfl) ?_
                refine lv_iconst (v := 2) hx hb dX7_locks_190 (by decide) ?_
                refine lv_icmp_ne (tgt := 198) hx hb dX7_locks_191 (by decide) (fun c_76 => ?_) (fun c_76 => ?_)
                · refine lv_aload_n hx hb dX7_locks_198 rfl (lv_at hl 1 rfl) ?_
                  refine gt7_11 C hP in_X7_locks_7 ln_X7_locks_2 (v := (u.1 11)) rfl dX7_locks_199 ?_
                  exact J_74 _ ((if_neg c_75).trans ((if_neg c_76).trans rfl)).symm
                · refine lv_iconst (v := 0) hx hb dX7_locks_194 (by decide) ?_
                  refine lv_goto (tgt := 202) hx hb dX7_locks_195 (by decide) ?_
                  exact J_74 _ ((if_neg c_75).trans ((if_pos c_76).trans rfl)).symm
          · refine lv_if_ne (tgt := 176) hx hb dX7_locks_164 (by decide) (fun c_71 => ?_) (fun c_71 => ?_)
            · refine lv_iconst (v := 1) hx hb dX7_locks_176 (by decide) ?_
              refine lv_goto (tgt := 181) hx hb dX7_locks_177 (by decide) ?_
              exact J_70 _ ((if_neg c_71).trans rfl).symm
            · refine lv_iload_n hx hb dX7_locks_167 rfl (lv_at hl 0 rfl) ?_
              refine lv_if_eq (tgt := 180) hx hb dX7_locks_168 (by decide) (fun c_72 => ?_) (fun c_72 => ?_)
              · refine lv_iconst (v := 0) hx hb dX7_locks_180 (by decide) ?_
                exact J_70 _ ((if_pos c_71).trans ((if_pos c_72).trans rfl)).symm
              · refine lv_iload_n hx hb dX7_locks_171 rfl (lv_at hl 2 rfl) ?_
                refine lv_iconst (v := 4) hx hb dX7_locks_172 (by decide) ?_
                refine lv_icmp_ne (tgt := 180) hx hb dX7_locks_173 (by decide) (fun c_73 => ?_) (fun c_73 => ?_)
                · refine lv_iconst (v := 0) hx hb dX7_locks_180 (by decide) ?_
                  exact J_70 _ ((if_pos c_71).trans ((if_neg c_72).trans ((if_neg c_73).trans rfl))).symm
                · refine lv_iconst (v := 1) hx hb dX7_locks_176 (by decide) ?_
                  refine lv_goto (tgt := 181) hx hb dX7_locks_177 (by decide) ?_
                  exact J_70 _ ((if_pos c_71).trans ((if_neg c_72).trans ((if_pos c_73).trans rfl))).symm
        · refine lv_if_eq (tgt := 157) hx hb dX7_locks_150 (by decide) (fun c_69 => ?_) (fun c_69 => ?_)
          · refine lv_iconst (v := 0) hx hb dX7_locks_157 (by decide) ?_
            exact J_68 _ ((if_pos c_69).trans rfl).symm
          · refine lv_iconst (v := 1) hx hb dX7_locks_153 (by decide) ?_
            refine lv_goto (tgt := 158) hx hb dX7_locks_154 (by decide) ?_
            exact J_68 _ ((if_neg c_69).trans rfl).symm
  by_cases s_79 : x1 = 5
  · refine lv_tableIn (tgt := 97) hx hb dX7_locks_3 (by rw [s_79]; decide) (by rw [s_79]; decide) (by rw [s_79]; rfl) (by decide) ?_
    refine lv_aload_n hx hb dX7_locks_97 rfl (lv_at hl 1 rfl) ?_
    refine kv_i C (c_X7_sets l D cI cZ ad u  hA.2.2.2.2.2.1 hA.2.2.2.2.2.2) (cwV 0 C.2.2.2.2.1 gX7_locks_X7_sets rfl rfl rfl hdX7_sets ⟨Nat.le_of_ble_eq_true rfl, Nat.le_of_ble_eq_true rfl⟩) (ci := 7) (q0 := 0) rfl rfl rfl hP hD hS (sp_self (fun u => (w_7 cI ad u)) 9 (fun _ => rfl)) rfl hl.1 rfl (Nat.le_of_ble_eq_true rfl) dX7_locks_98 ⟨Nat.zero_le _, Nat.zero_le _⟩ (fun H locs hP hD hS => ?_)
    refine lv_istore_n (lv' := [(2, .int _), (0, .ref _), (1, .int _)]) hx hb dX7_locks_101 rfl hl (by decide) rfl (fun ls hl => ?_)
    refine lv_aload_n hx hb dX7_locks_102 rfl (lv_at hl 1 rfl) ?_
    refine lv_aload_n hx hb dX7_locks_103 rfl (lv_at hl 1 rfl) ?_
    refine gt7_21 C hP in_X7_locks_7 ln_X7_locks_1 (v := ((f_X7_sets u).2.1 21)) rfl dX7_locks_104 ?_
    refine jn_i (g := fun x => F0 m 124 ls (.int x :: [.ref (ad 0)])) ((if ((f_X7_sets u).2.1 21) = 0 then (if (f_X7_sets u).1 = 0 then 0 else (if x1 = 5 then 1 else 0)) else 1)) (fun y_81 ey_81 => ?_) (fun J_81 => ?_)
    · refine pt7_21 C hP hD hS in_X7_locks_7 ln_X7_locks_1 (ey_81 ▸ (bz_ite (bz_ite (Or.inl rfl) (bz_ite (Or.inr rfl) (Or.inl rfl))) (Or.inr rfl))) dX7_locks_124 (fun H locs hP hD hS => ?_)
      refine lv_goto (tgt := 235) hx hb dX7_locks_127 (by decide) ?_
      refine lv_iload_n hx hb dX7_locks_235 rfl (lv_at hl 0 rfl) ?_
      refine lv_if_eq (tgt := 243) hx hb dX7_locks_236 (by decide) (fun c_85 => ?_) (fun c_85 => ?_)
      · refine lv_aload_n hx hb dX7_locks_243 rfl (lv_at hl 1 rfl) ?_
        refine lv_bipush (v := 16) hx hb dX7_locks_244 (by decide) ?_
        refine kv_i C (c_X7_noting l D cI cZ ad (ob_i (f_X7_sets u).2 21 y_81) 16 ) (cwV 1 C.2.2.2.2.1 gX7_locks_X7_noting rfl rfl rfl hdX7_noting ⟨Nat.le_of_ble_eq_true rfl, Nat.le_of_ble_eq_true rfl⟩) (ci := 7) (q0 := 0) rfl rfl rfl hP hD hS (sp_self (fun u => (w_7 cI ad u)) 9 (fun _ => rfl)) rfl hl.1 rfl (Nat.le_of_ble_eq_true rfl) dX7_locks_246 ⟨Nat.zero_le _, Nat.zero_le _⟩ (fun H locs hP hD hS => ?_)
        subst ey_81
        exact rt_i C hr hlk hP hD hS ((if_neg s_1).trans ((if_neg s_15).trans ((if_neg s_23).trans ((if_neg s_51).trans ((if_pos s_79).trans ((if_pos c_85).trans rfl)))))) dX7_locks_249
      · refine lv_iconst (v := 1) hx hb dX7_locks_239 (by decide) ?_
        refine lv_goto (tgt := 249) hx hb dX7_locks_240 (by decide) ?_
        subst ey_81
        exact rt_i C hr hlk hP hD hS ((if_neg s_1).trans ((if_neg s_15).trans ((if_neg s_23).trans ((if_neg s_51).trans ((if_pos s_79).trans ((if_neg c_85).trans rfl)))))) dX7_locks_249
    · refine lv_if_ne (tgt := 119) hx hb dX7_locks_107 (by decide) (fun c_82 => ?_) (fun c_82 => ?_)
      · refine lv_iconst (v := 1) hx hb dX7_locks_119 (by decide) ?_
        refine lv_goto (tgt := 124) hx hb dX7_locks_120 (by decide) ?_
        exact J_81 _ ((if_neg c_82).trans rfl).symm
      · refine lv_iload_n hx hb dX7_locks_110 rfl (lv_at hl 0 rfl) ?_
        refine lv_if_eq (tgt := 123) hx hb dX7_locks_111 (by decide) (fun c_83 => ?_) (fun c_83 => ?_)
        · refine lv_iconst (v := 0) hx hb dX7_locks_123 (by decide) ?_
          exact J_81 _ ((if_pos c_82).trans ((if_pos c_83).trans rfl)).symm
        · refine lv_iload_n hx hb dX7_locks_114 rfl (lv_at hl 2 rfl) ?_
          refine lv_iconst (v := 5) hx hb dX7_locks_115 (by decide) ?_
          refine lv_icmp_ne (tgt := 123) hx hb dX7_locks_116 (by decide) (fun c_84 => ?_) (fun c_84 => ?_)
          · refine lv_iconst (v := 0) hx hb dX7_locks_123 (by decide) ?_
            exact J_81 _ ((if_pos c_82).trans ((if_neg c_83).trans ((if_neg c_84).trans rfl))).symm
          · refine lv_iconst (v := 1) hx hb dX7_locks_119 (by decide) ?_
            refine lv_goto (tgt := 124) hx hb dX7_locks_120 (by decide) ?_
            exact J_81 _ ((if_pos c_82).trans ((if_neg c_83).trans ((if_pos c_84).trans rfl))).symm
  by_cases s_87 : x1 = 8
  · refine lv_tableIn (tgt := 208) hx hb dX7_locks_3 (by rw [s_87]; decide) (by rw [s_87]; decide) (by rw [s_87]; rfl) (by decide) ?_
    refine lv_aload_n hx hb dX7_locks_208 rfl (lv_at hl 1 rfl) ?_
    refine gt7_21 C hP in_X7_locks_7 ln_X7_locks_1 (v := (u.1 21)) rfl dX7_locks_209 ?_
    refine lv_if_eq (tgt := 235) hx hb dX7_locks_212 (by decide) (fun c_88 => ?_) (fun c_88 => ?_)
    · refine lv_iload_n hx hb dX7_locks_235 rfl (lv_at hl 0 rfl) ?_
      refine lv_if_eq (tgt := 243) hx hb dX7_locks_236 (by decide) (fun c_89 => ?_) (fun c_89 => ?_)
      · refine lv_aload_n hx hb dX7_locks_243 rfl (lv_at hl 1 rfl) ?_
        refine lv_bipush (v := 16) hx hb dX7_locks_244 (by decide) ?_
        refine kv_i C (c_X7_noting l D cI cZ ad u 16 ) (cwV 1 C.2.2.2.2.1 gX7_locks_X7_noting rfl rfl rfl hdX7_noting ⟨Nat.le_of_ble_eq_true rfl, Nat.le_of_ble_eq_true rfl⟩) (ci := 7) (q0 := 0) rfl rfl rfl hP hD hS (sp_self (fun u => (w_7 cI ad u)) 9 (fun _ => rfl)) rfl hl.1 rfl (Nat.le_of_ble_eq_true rfl) dX7_locks_246 ⟨Nat.zero_le _, Nat.zero_le _⟩ (fun H locs hP hD hS => ?_)
        exact rt_i C hr hlk hP hD hS ((if_neg s_1).trans ((if_neg s_15).trans ((if_neg s_23).trans ((if_neg s_51).trans ((if_neg s_79).trans ((if_pos s_87).trans ((if_pos c_88).trans rfl))))))) dX7_locks_249
      · exact absurd (by decide) c_89
    · refine lv_aload_n hx hb dX7_locks_215 rfl (lv_at hl 1 rfl) ?_
      refine lv_iconst (v := 0) hx hb dX7_locks_216 (by decide) ?_
      refine pt7_11 C hP hD hS in_X7_locks_7 ln_X7_locks_2 dX7_locks_217 (fun H locs hP hD hS => ?_)
      refine lv_aload_n hx hb dX7_locks_220 rfl (lv_at hl 1 rfl) ?_
      refine lv_iconst (v := 0) hx hb dX7_locks_221 (by decide) ?_
      refine pt7_21 C hP hD hS in_X7_locks_7 ln_X7_locks_1 (Or.inl rfl) dX7_locks_222 (fun H locs hP hD hS => ?_)
      refine lv_aload_n hx hb dX7_locks_225 rfl (lv_at hl 1 rfl) ?_
      refine lv_iconst (v := 0) hx hb dX7_locks_226 (by decide) ?_
      refine lv_aload_n hx hb dX7_locks_227 rfl (lv_at hl 1 rfl) ?_
      refine kv_p C (c_X7_groups l D cI cZ ad (ob_i (ob_i u 11 0) 21 0)  hA.2.2.2.2.1) (cwV 0 C.2.2.2.2.1 gX7_locks_X7_groups rfl rfl rfl hdX7_groups ⟨Nat.le_of_ble_eq_true rfl, Nat.le_of_ble_eq_true rfl⟩) (ci := 7) (q0 := 0) rfl rfl rfl hP hD hS (su_self _) rfl hl.1 rfl (Nat.le_of_ble_eq_true rfl) dX7_locks_228 ⟨Nat.zero_le _, Nat.zero_le _⟩ (fun H locs hP hS => ?_)
      refine kv_i C (c_X7_erasesGroups l D cI cZ ad (ob_i (ob_i u 11 0) 21 0) 0 (f_X7_groups (ob_i (ob_i u 11 0) 21 0)) ) (cwV 2 C.2.2.2.2.1 gX7_locks_X7_erasesGroups rfl rfl rfl hdX7_erasesGroups ⟨Nat.le_of_ble_eq_true rfl, Nat.le_of_ble_eq_true rfl⟩) (ci := 7) (q0 := 0) rfl rfl rfl hP hD hS (sp_self (fun u => (w_7 cI ad u)) 9 (fun _ => rfl)) rfl hl.1 rfl (Nat.le_of_ble_eq_true rfl) dX7_locks_231 ⟨Nat.zero_le _, Nat.zero_le _⟩ (fun H locs hP hD hS => ?_)
      exact rt_i C hr hlk hP hD hS ((if_neg s_1).trans ((if_neg s_15).trans ((if_neg s_23).trans ((if_neg s_51).trans ((if_neg s_79).trans ((if_pos s_87).trans ((if_neg c_88).trans rfl))))))) dX7_locks_234
  refine tb_any (tgt := 235) hx hb dX7_locks_3 ?_ (by decide) ?_
  · have q0 := lv_neT s_1 (a := 0) rfl
    have q1 := lv_neT s_15 (a := 1) rfl
    have q2 := lv_neT s_23 (a := 2) rfl
    have q3 := lv_neT s_51 (a := 4) rfl
    have q4 := lv_neT s_79 (a := 5) rfl
    have q5 := lv_neT s_87 (a := 8) rfl
    rcases (show x1.toInt = 3 ∨ x1.toInt = 6 ∨ x1.toInt = 7 ∨ (x1.toInt < 0 ∨ 8 < x1.toInt) by omega) with h | h | h | h
    · exact Or.inr ⟨by rw [h]; decide, by rw [h]; decide, by rw [h]; rfl⟩
    · exact Or.inr ⟨by rw [h]; decide, by rw [h]; decide, by rw [h]; rfl⟩
    · exact Or.inr ⟨by rw [h]; decide, by rw [h]; decide, by rw [h]; rfl⟩
    · exact Or.inl h
  · refine lv_iload_n hx hb dX7_locks_235 rfl (lv_at hl 0 rfl) ?_
    refine lv_if_eq (tgt := 243) hx hb dX7_locks_236 (by decide) (fun c_92 => ?_) (fun c_92 => ?_)
    · refine lv_aload_n hx hb dX7_locks_243 rfl (lv_at hl 1 rfl) ?_
      refine lv_bipush (v := 16) hx hb dX7_locks_244 (by decide) ?_
      refine kv_i C (c_X7_noting l D cI cZ ad u 16 ) (cwV 1 C.2.2.2.2.1 gX7_locks_X7_noting rfl rfl rfl hdX7_noting ⟨Nat.le_of_ble_eq_true rfl, Nat.le_of_ble_eq_true rfl⟩) (ci := 7) (q0 := 0) rfl rfl rfl hP hD hS (sp_self (fun u => (w_7 cI ad u)) 9 (fun _ => rfl)) rfl hl.1 rfl (Nat.le_of_ble_eq_true rfl) dX7_locks_246 ⟨Nat.zero_le _, Nat.zero_le _⟩ (fun H locs hP hD hS => ?_)
      exact rt_i C hr hlk hP hD hS ((if_neg s_1).trans ((if_neg s_15).trans ((if_neg s_23).trans ((if_neg s_51).trans ((if_neg s_79).trans ((if_neg s_87).trans rfl)))))) dX7_locks_249
    · exact absurd (by decide) c_92
theorem ln_X7_erases_1 : Cond.fieldLink RX7 52 "BlockCardModel" "blocks" "I" ∈ wsX7_erases := List.mem_of_getElem? (i := 1) rfl
theorem in_X7_erases_7 : ∀ w ∈ wsX70, w ∈ wsX7_erases := fun w h => List.mem_cons_of_mem _ (List.mem_append_right _ h)
theorem ln_X7_erases_2 : Cond.fieldLink RX7 222 "BlockCardModel" "from" "I" ∈ wsX7_erases := List.mem_of_getElem? (i := 2) rfl
theorem ln_X7_erases_3 : Cond.fieldLink RX7 121 "BlockCardModel" "begun" "I" ∈ wsX7_erases := List.mem_of_getElem? (i := 3) rfl
theorem ln_X7_erases_4 : Cond.fieldLink RX7 56 "BlockCardModel" "size" "I" ∈ wsX7_erases := List.mem_of_getElem? (i := 4) rfl
theorem ln_X7_erases_5 : Cond.fieldLink RX7 228 "BlockCardModel" "to" "I" ∈ wsX7_erases := List.mem_of_getElem? (i := 5) rfl
set_option maxHeartbeats 4000000 in
set_option maxRecDepth 100000 in
theorem c_X7_erases (l : Launch) (D : va_G) (cI cZ : ClassId) (ad : Nat → Nat) (u : ob_S) (x1 : Int32) (x2 : Int32) (hA : pm_A u) : Ct_i l yX7_erases wsX7_erases ({ frames := 4, cells := 0, slots := 0, locals := 93 } : Room) D (ct_T cI cZ) [.ref (ad 0), .int x1, .int x2] (w_7 cI ad u) (fun u => (w_7 cI ad u)) (f_X7_erases u x1 x2) := by
  refine en_i (cc := cX7_erases) (maxL := 3) (ret := (some .int)) (own := RX7) (by decide +kernel) rfl rfl (Nat.le_of_ble_eq_true rfl) ?_
  intro p e s m args below meth c A ls C hr hlk hP hD hS hl
  have hx := C.1
  have hb := C.2.1
  have hl : lv_has ls 3 [(0, .ref (ad 0)), (1, .int x1), (2, .int x2)] := hl
  refine lv_iload_n hx hb dX7_erases_0 rfl (lv_at hl 1 rfl) ?_
  by_cases s_1 : x1 = 32
  · refine lv_lookup (off := 35) (tgt := 36) hx hb dX7_erases_1 (by decide) (by rw [s_1] <;> rfl) (by decide) ?_
    refine lv_iload_n hx hb dX7_erases_36 rfl (lv_at hl 2 rfl) ?_
    refine lv_aload_n hx hb dX7_erases_37 rfl (lv_at hl 0 rfl) ?_
    refine gt7_3 C hP in_X7_erases_7 ln_X7_erases_1 (v := (u.1 3)) rfl dX7_erases_38 ?_
    refine lv_icmp_lt (tgt := 50) hx hb dX7_erases_41 (by decide) (fun c_2 => ?_) (fun c_2 => ?_)
    · refine lv_aload_n hx hb dX7_erases_50 rfl (lv_at hl 0 rfl) ?_
      refine lv_iload_n hx hb dX7_erases_51 rfl (lv_at hl 2 rfl) ?_
      refine pt7_33 C hP hD hS in_X7_erases_7 ln_X7_erases_2 dX7_erases_52 (fun H locs hP hD hS => ?_)
      refine lv_aload_n hx hb dX7_erases_55 rfl (lv_at hl 0 rfl) ?_
      refine lv_iconst (v := 1) hx hb dX7_erases_56 (by decide) ?_
      refine pt7_32 C hP hD hS in_X7_erases_7 ln_X7_erases_3 dX7_erases_57 (fun H locs hP hD hS => ?_)
      refine lv_iconst (v := 0) hx hb dX7_erases_60 (by decide) ?_
      exact rt_i C hr hlk hP hD hS ((if_pos s_1).trans ((if_pos c_2).trans rfl)) dX7_erases_61
    · refine lv_aload_n hx hb dX7_erases_44 rfl (lv_at hl 0 rfl) ?_
      refine lv_iconst (v := 4) hx hb dX7_erases_45 (by decide) ?_
      refine kv_i C (c_X7_noting l D cI cZ ad u 4 ) (cwV 1 C.2.2.2.2.1 gX7_erases_X7_noting rfl rfl rfl hdX7_noting ⟨Nat.le_of_ble_eq_true rfl, Nat.le_of_ble_eq_true rfl⟩) (ci := 7) (q0 := 0) rfl rfl rfl hP hD hS (sp_self (fun u => (w_7 cI ad u)) 9 (fun _ => rfl)) rfl hl.1 rfl (Nat.le_of_ble_eq_true rfl) dX7_erases_46 ⟨Nat.zero_le _, Nat.zero_le _⟩ (fun H locs hP hD hS => ?_)
      exact rt_i C hr hlk hP hD hS ((if_pos s_1).trans ((if_neg c_2).trans rfl)) dX7_erases_49
  by_cases s_4 : x1 = 33
  · refine lv_lookup (off := 61) (tgt := 62) hx hb dX7_erases_1 (by decide) (by rw [s_4] <;> rfl) (by decide) ?_
    refine lv_aload_n hx hb dX7_erases_62 rfl (lv_at hl 0 rfl) ?_
    refine lv_iload_n hx hb dX7_erases_63 rfl (lv_at hl 2 rfl) ?_
    refine kv_i C (c_X7_endsAt l D cI cZ ad u x2 ) (cwV 1 C.2.2.2.2.1 gX7_erases_X7_endsAt rfl rfl rfl hdX7_endsAt ⟨Nat.le_of_ble_eq_true rfl, Nat.le_of_ble_eq_true rfl⟩) (ci := 7) (q0 := 0) rfl rfl rfl hP hD hS (sp_self (fun u => (w_7 cI ad u)) 9 (fun _ => rfl)) rfl hl.1 rfl (Nat.le_of_ble_eq_true rfl) dX7_erases_64 ⟨Nat.zero_le _, Nat.zero_le _⟩ (fun H locs hP hD hS => ?_)
    exact rt_i C hr hlk hP hD hS ((if_neg s_1).trans ((if_pos s_4).trans rfl)) dX7_erases_67
  by_cases s_6 : x1 = 38
  · refine lv_lookup (off := 67) (tgt := 68) hx hb dX7_erases_1 (by decide) (by rw [s_6] <;> rfl) (by decide) ?_
    refine lv_aload_n hx hb dX7_erases_68 rfl (lv_at hl 0 rfl) ?_
    refine gt7_32 C hP in_X7_erases_7 ln_X7_erases_3 (v := (u.1 32)) rfl dX7_erases_69 ?_
    refine lv_iconst (v := 2) hx hb dX7_erases_72 (by decide) ?_
    refine lv_icmp_eq (tgt := 83) hx hb dX7_erases_73 (by decide) (fun c_7 => ?_) (fun c_7 => ?_)
    · refine lv_aload_n hx hb dX7_erases_83 rfl (lv_at hl 0 rfl) ?_
      refine lv_iconst (v := 0) hx hb dX7_erases_84 (by decide) ?_
      refine pt7_32 C hP hD hS in_X7_erases_7 ln_X7_erases_3 dX7_erases_85 (fun H locs hP hD hS => ?_)
      refine lv_aload_n hx hb dX7_erases_88 rfl (lv_at hl 0 rfl) ?_
      refine lv_aload_n hx hb dX7_erases_89 rfl (lv_at hl 0 rfl) ?_
      refine gt7_33 C hP in_X7_erases_7 ln_X7_erases_2 (v := (u.1 33)) rfl dX7_erases_90 ?_
      refine lv_aload_n hx hb dX7_erases_93 rfl (lv_at hl 0 rfl) ?_
      refine gt7_4 C hP in_X7_erases_7 ln_X7_erases_4 (v := (u.1 4)) rfl dX7_erases_94 ?_
      refine lv_idiv hx hb dX7_erases_97 hA.2.2.2.2.1 ?_
      refine lv_aload_n hx hb dX7_erases_98 rfl (lv_at hl 0 rfl) ?_
      refine gt7_34 C hP in_X7_erases_7 ln_X7_erases_5 (v := (u.1 34)) rfl dX7_erases_99 ?_
      refine lv_aload_n hx hb dX7_erases_102 rfl (lv_at hl 0 rfl) ?_
      refine gt7_4 C hP in_X7_erases_7 ln_X7_erases_4 (v := (u.1 4)) rfl dX7_erases_103 ?_
      refine lv_idiv hx hb dX7_erases_106 hA.2.2.2.2.1 ?_
      refine lv_aload_n hx hb dX7_erases_107 rfl (lv_at hl 0 rfl) ?_
      refine gt7_33 C hP in_X7_erases_7 ln_X7_erases_2 (v := (u.1 33)) rfl dX7_erases_108 ?_
      refine lv_aload_n hx hb dX7_erases_111 rfl (lv_at hl 0 rfl) ?_
      refine gt7_4 C hP in_X7_erases_7 ln_X7_erases_4 (v := (u.1 4)) rfl dX7_erases_112 ?_
      refine lv_idiv hx hb dX7_erases_115 hA.2.2.2.2.1 ?_
      refine lv_isub hx hb dX7_erases_116 ?_
      refine lv_iconst (v := 1) hx hb dX7_erases_117 (by decide) ?_
      refine lv_iadd hx hb dX7_erases_118 ?_
      refine kv_i C (c_X7_erasesGroups l D cI cZ ad (ob_i u 32 0) ((u.1 33) / (u.1 4)) ((((u.1 34) / (u.1 4)) - ((u.1 33) / (u.1 4))) + 1) ) (cwV 2 C.2.2.2.2.1 gX7_erases_X7_erasesGroups rfl rfl rfl hdX7_erasesGroups ⟨Nat.le_of_ble_eq_true rfl, Nat.le_of_ble_eq_true rfl⟩) (ci := 7) (q0 := 0) rfl rfl rfl hP hD hS (sp_self (fun u => (w_7 cI ad u)) 9 (fun _ => rfl)) rfl hl.1 rfl (Nat.le_of_ble_eq_true rfl) dX7_erases_119 ⟨Nat.zero_le _, Nat.zero_le _⟩ (fun H locs hP hD hS => ?_)
      exact rt_i C hr hlk hP hD hS ((if_neg s_1).trans ((if_neg s_4).trans ((if_pos s_6).trans ((if_pos c_7).trans rfl)))) dX7_erases_122
    · refine lv_aload_n hx hb dX7_erases_76 rfl (lv_at hl 0 rfl) ?_
      refine lv_bipush (v := 8) hx hb dX7_erases_77 (by decide) ?_
      refine kv_i C (c_X7_noting l D cI cZ ad u 8 ) (cwV 1 C.2.2.2.2.1 gX7_erases_X7_noting rfl rfl rfl hdX7_noting ⟨Nat.le_of_ble_eq_true rfl, Nat.le_of_ble_eq_true rfl⟩) (ci := 7) (q0 := 0) rfl rfl rfl hP hD hS (sp_self (fun u => (w_7 cI ad u)) 9 (fun _ => rfl)) rfl hl.1 rfl (Nat.le_of_ble_eq_true rfl) dX7_erases_79 ⟨Nat.zero_le _, Nat.zero_le _⟩ (fun H locs hP hD hS => ?_)
      exact rt_i C hr hlk hP hD hS ((if_neg s_1).trans ((if_neg s_4).trans ((if_pos s_6).trans ((if_neg c_7).trans rfl)))) dX7_erases_82
  refine lv_lookup (off := 122) (tgt := 123) hx hb dX7_erases_1 (by decide) (by rw [lv_osw s_1 (a := 32) rfl, lv_osw s_4 (a := 33) rfl, lv_osw s_6 (a := 38) rfl] <;> rfl) (by decide) ?_
  refine lv_aload_n hx hb dX7_erases_123 rfl (lv_at hl 0 rfl) ?_
  refine lv_iload_n hx hb dX7_erases_124 rfl (lv_at hl 2 rfl) ?_
  refine kv_i C (c_X7_locks l D cI cZ ad u x2 hA) (cwV 1 C.2.2.2.2.1 gX7_erases_X7_locks rfl rfl rfl hdX7_locks ⟨Nat.le_of_ble_eq_true rfl, Nat.le_of_ble_eq_true rfl⟩) (ci := 7) (q0 := 0) rfl rfl rfl hP hD hS (sp_self (fun u => (w_7 cI ad u)) 9 (fun _ => rfl)) rfl hl.1 rfl (Nat.le_of_ble_eq_true rfl) dX7_erases_125 ⟨Nat.zero_le _, Nat.zero_le _⟩ (fun H locs hP hD hS => ?_)
  exact rt_i C hr hlk hP hD hS ((if_neg s_1).trans ((if_neg s_4).trans ((if_neg s_6).trans rfl))) dX7_erases_128
theorem ln_X7_send_1 : Cond.constantLong RX7 162 (63) ∈ wsX7_send := List.mem_of_getElem? (i := 1) rfl
theorem ln_X7_send_2 : Cond.constantLong RX7 50 (65535) ∈ wsX7_send := List.mem_of_getElem? (i := 2) rfl
theorem ln_X7_send_3 : Cond.constantLong RX7 177 (127) ∈ wsX7_send := List.mem_of_getElem? (i := 3) rfl
theorem ln_X7_send_4 : Cond.fieldLink RX7 78 "BlockCardModel" "isOn" "Z" ∈ wsX7_send := List.mem_of_getElem? (i := 4) rfl
theorem in_X7_send_7 : ∀ w ∈ wsX70, w ∈ wsX7_send := fun w h => List.mem_cons_of_mem _ (List.mem_append_right _ h)
theorem ln_X7_send_5 : Cond.fieldLink RX7 103 "BlockCardModel" "notes" "I" ∈ wsX7_send := List.mem_of_getElem? (i := 5) rfl
theorem ln_X7_send_6 : Cond.fieldLink RX7 100 "BlockCardModel" "isLocked" "Z" ∈ wsX7_send := List.mem_of_getElem? (i := 6) rfl
theorem ln_X7_send_7 : Cond.fieldLink RX7 121 "BlockCardModel" "begun" "I" ∈ wsX7_send := List.mem_of_getElem? (i := 7) rfl
set_option maxHeartbeats 4000000 in
set_option maxRecDepth 100000 in
theorem c_X7_send (l : Launch) (D : va_G) (cI cZ : ClassId) (ad : Nat → Nat) (u : ob_S) (x1 : Int32) (x2 : Int32) (x3 : Int32) (hA : pm_A u) : Ct_i l yX7_send wsX7_send ({ frames := 5, cells := 0, slots := 0, locals := 115 } : Room) D (ct_T cI cZ) [.ref (ad 0), .int x1, .int x2, .int x3] (w_7 cI ad u) (fun u => (w_7 cI ad u)) (f_X7_send u x1 x2 x3) := by
  refine en_i (cc := cX7_send) (maxL := 4) (ret := (some .int)) (own := RX7) (by decide +kernel) rfl rfl (Nat.le_of_ble_eq_true rfl) ?_
  intro p e s m args below meth c A ls C hr hlk hP hD hS hl
  have hx := C.1
  have hb := C.2.1
  have hl : lv_has ls 4 [(0, .ref (ad 0)), (1, .int x1), (2, .int x2), (3, .int x3)] := hl
  refine lv_iload_n hx hb dX7_send_0 rfl (lv_at hl 1 rfl) ?_
  refine lv_i2l hx hb dX7_send_1 rfl ?_
  refine lv_lconst (v := 0) hx hb dX7_send_2 (by decide) ?_
  refine lv_ldc2 (v := 63) hx hb C.2.2.2.1 (C.2.2.2.2.1 _ ln_X7_send_1) dX7_send_3 ?_
  refine ks_p C (c_X7_in l D cI cZ (Int32.toInt64 x1) 0 63 ) (va_cwS 3 C.2.2.2.2.1 gX7_send_X7_in rfl rfl rfl hdX7_in ⟨Nat.le_of_ble_eq_true rfl, Nat.le_of_ble_eq_true rfl⟩) hP hD hS rfl hl.1 rfl (Nat.le_of_ble_eq_true rfl) dX7_send_6 ⟨Nat.zero_le _, Nat.zero_le _⟩ (fun H locs hP hS => ?_)
  refine lv_if_eq (tgt := 36) hx hb dX7_send_9 (by decide) (fun c_1 => ?_) (fun c_1 => ?_)
  · refine lv_iconst (v := (-1)) hx hb dX7_send_36 (by decide) ?_
    exact rt_i C hr hlk hP hD hS ((if_pos c_1).trans rfl) dX7_send_37
  · refine lv_iload_n hx hb dX7_send_12 rfl (lv_at hl 2 rfl) ?_
    refine lv_i2l hx hb dX7_send_13 rfl ?_
    refine lv_lconst (v := 0) hx hb dX7_send_14 (by decide) ?_
    refine lv_ldc2 (v := 65535) hx hb C.2.2.2.1 (C.2.2.2.2.1 _ ln_X7_send_2) dX7_send_15 ?_
    refine ks_p C (c_X7_in l D cI cZ (Int32.toInt64 x2) 0 65535 ) (va_cwS 3 C.2.2.2.2.1 gX7_send_X7_in rfl rfl rfl hdX7_in ⟨Nat.le_of_ble_eq_true rfl, Nat.le_of_ble_eq_true rfl⟩) hP hD hS rfl hl.1 rfl (Nat.le_of_ble_eq_true rfl) dX7_send_18 ⟨Nat.zero_le _, Nat.zero_le _⟩ (fun H locs hP hS => ?_)
    refine lv_if_eq (tgt := 36) hx hb dX7_send_21 (by decide) (fun c_2 => ?_) (fun c_2 => ?_)
    · refine lv_iconst (v := (-1)) hx hb dX7_send_36 (by decide) ?_
      exact rt_i C hr hlk hP hD hS ((if_neg c_1).trans ((if_pos c_2).trans rfl)) dX7_send_37
    · refine lv_iload_n hx hb dX7_send_24 rfl (lv_at hl 3 rfl) ?_
      refine lv_i2l hx hb dX7_send_25 rfl ?_
      refine lv_lconst (v := 0) hx hb dX7_send_26 (by decide) ?_
      refine lv_ldc2 (v := 127) hx hb C.2.2.2.1 (C.2.2.2.2.1 _ ln_X7_send_3) dX7_send_27 ?_
      refine ks_p C (c_X7_in l D cI cZ (Int32.toInt64 x3) 0 127 ) (va_cwS 3 C.2.2.2.2.1 gX7_send_X7_in rfl rfl rfl hdX7_in ⟨Nat.le_of_ble_eq_true rfl, Nat.le_of_ble_eq_true rfl⟩) hP hD hS rfl hl.1 rfl (Nat.le_of_ble_eq_true rfl) dX7_send_30 ⟨Nat.zero_le _, Nat.zero_le _⟩ (fun H locs hP hS => ?_)
      refine lv_if_ne (tgt := 38) hx hb dX7_send_33 (by decide) (fun c_3 => ?_) (fun c_3 => ?_)
      · refine lv_aload_n hx hb dX7_send_38 rfl (lv_at hl 0 rfl) ?_
        refine gt7_15 C hP in_X7_send_7 ln_X7_send_4 (v := (u.1 15)) rfl dX7_send_39 ?_
        refine lv_if_ne (tgt := 48) hx hb dX7_send_42 (by decide) (fun c_4 => ?_) (fun c_4 => ?_)
        · refine lv_iload_n hx hb dX7_send_48 rfl (lv_at hl 3 rfl) ?_
          refine lv_aload_n hx hb dX7_send_49 rfl (lv_at hl 0 rfl) ?_
          refine lv_iload_n hx hb dX7_send_50 rfl (lv_at hl 1 rfl) ?_
          refine lv_iload_n hx hb dX7_send_51 rfl (lv_at hl 2 rfl) ?_
          refine kv_p C (c_X7_check l D cI cZ ad u x1 x2 ) (cwV 2 C.2.2.2.2.1 gX7_send_X7_check rfl rfl rfl hdX7_check ⟨Nat.le_of_ble_eq_true rfl, Nat.le_of_ble_eq_true rfl⟩) (ci := 7) (q0 := 0) rfl rfl rfl hP hD hS (su_self _) rfl hl.1 rfl (Nat.le_of_ble_eq_true rfl) dX7_send_52 ⟨Nat.zero_le _, Nat.zero_le _⟩ (fun H locs hP hS => ?_)
          refine lv_icmp_eq (tgt := 71) hx hb dX7_send_55 (by decide) (fun c_5 => ?_) (fun c_5 => ?_)
          · refine lv_aload_n hx hb dX7_send_71 rfl (lv_at hl 0 rfl) ?_
            refine lv_iload_n hx hb dX7_send_72 rfl (lv_at hl 1 rfl) ?_
            refine kv_p C (c_X7_isOne l D cI cZ ad u x1 ) (cwV 1 C.2.2.2.2.1 gX7_send_X7_isOne rfl rfl rfl hdX7_isOne ⟨Nat.le_of_ble_eq_true rfl, Nat.le_of_ble_eq_true rfl⟩) (ci := 7) (q0 := 0) rfl rfl rfl hP hD hS (su_self _) rfl hl.1 rfl (Nat.le_of_ble_eq_true rfl) dX7_send_73 ⟨Nat.zero_le _, Nat.zero_le _⟩ (fun H locs hP hS => ?_)
            refine lv_if_eq (tgt := 93) hx hb dX7_send_76 (by decide) (fun c_6 => ?_) (fun c_6 => ?_)
            · refine lv_aload_n hx hb dX7_send_93 rfl (lv_at hl 0 rfl) ?_
              refine lv_dup hx hb dX7_send_94 rfl ?_
              refine gt7_22 C hP in_X7_send_7 ln_X7_send_5 (v := (u.1 22)) rfl dX7_send_95 ?_
              refine lv_iconst (v := 2) hx hb dX7_send_98 (by decide) ?_
              refine lv_ior hx hb dX7_send_99 ?_
              refine pt7_22 C hP hD hS in_X7_send_7 ln_X7_send_5 dX7_send_100 (fun H locs hP hD hS => ?_)
              refine lv_bipush (v := (-4)) hx hb dX7_send_103 (by decide) ?_
              exact rt_i C hr hlk hP hD hS ((if_neg c_1).trans ((if_neg c_2).trans ((if_neg c_3).trans ((if_neg c_4).trans ((if_pos c_5).trans ((if_pos c_6).trans rfl)))))) dX7_send_105
            · refine lv_aload_n hx hb dX7_send_79 rfl (lv_at hl 0 rfl) ?_
              refine gt7_21 C hP in_X7_send_7 ln_X7_send_6 (v := (u.1 21)) rfl dX7_send_80 ?_
              refine lv_if_eq (tgt := 106) hx hb dX7_send_83 (by decide) (fun c_7 => ?_) (fun c_7 => ?_)
              · refine lv_aload_n hx hb dX7_send_106 rfl (lv_at hl 0 rfl) ?_
                refine gt7_32 C hP in_X7_send_7 ln_X7_send_7 (v := (u.1 32)) rfl dX7_send_107 ?_
                refine lv_if_le (tgt := 163) hx hb dX7_send_110 (by decide) (fun c_8 => ?_) (fun c_8 => ?_)
                · refine lv_iload_n hx hb dX7_send_163 rfl (lv_at hl 1 rfl) ?_
                  refine lv_bipush (v := 16) hx hb dX7_send_164 (by decide) ?_
                  refine lv_icmp_ge (tgt := 178) hx hb dX7_send_166 (by decide) (fun c_9 => ?_) (fun c_9 => ?_)
                  · refine lv_iload_n hx hb dX7_send_178 rfl (lv_at hl 1 rfl) ?_
                    refine lv_bipush (v := 32) hx hb dX7_send_179 (by decide) ?_
                    refine lv_icmp_ge (tgt := 193) hx hb dX7_send_181 (by decide) (fun c_10 => ?_) (fun c_10 => ?_)
                    · refine lv_aload_n hx hb dX7_send_193 rfl (lv_at hl 0 rfl) ?_
                      refine lv_iload_n hx hb dX7_send_194 rfl (lv_at hl 1 rfl) ?_
                      refine lv_iload_n hx hb dX7_send_195 rfl (lv_at hl 2 rfl) ?_
                      refine kv_i C (c_X7_erases l D cI cZ ad u x1 x2 hA) (cwV 2 C.2.2.2.2.1 gX7_send_X7_erases rfl rfl rfl hdX7_erases ⟨Nat.le_of_ble_eq_true rfl, Nat.le_of_ble_eq_true rfl⟩) (ci := 7) (q0 := 0) rfl rfl rfl hP hD hS (sp_self (fun u => (w_7 cI ad u)) 9 (fun _ => rfl)) rfl hl.1 rfl (Nat.le_of_ble_eq_true rfl) dX7_send_196 ⟨Nat.zero_le _, Nat.zero_le _⟩ (fun H locs hP hD hS => ?_)
                      exact rt_i C hr hlk hP hD hS ((if_neg c_1).trans ((if_neg c_2).trans ((if_neg c_3).trans ((if_neg c_4).trans ((if_pos c_5).trans ((if_neg c_6).trans ((if_pos c_7).trans ((if_pos c_8).trans ((if_pos c_9).trans ((if_pos c_10).trans rfl)))))))))) dX7_send_199
                    · refine lv_aload_n hx hb dX7_send_184 rfl (lv_at hl 0 rfl) ?_
                      refine lv_iload_n hx hb dX7_send_185 rfl (lv_at hl 1 rfl) ?_
                      refine lv_iload_n hx hb dX7_send_186 rfl (lv_at hl 2 rfl) ?_
                      refine kv_i C (c_X7_streams l D cI cZ ad u x1 x2 ) (cwV 2 C.2.2.2.2.1 gX7_send_X7_streams rfl rfl rfl hdX7_streams ⟨Nat.le_of_ble_eq_true rfl, Nat.le_of_ble_eq_true rfl⟩) (ci := 7) (q0 := 0) rfl rfl rfl hP hD hS (sp_self (fun u => (w_7 cI ad u)) 9 (fun _ => rfl)) rfl hl.1 rfl (Nat.le_of_ble_eq_true rfl) dX7_send_187 ⟨Nat.zero_le _, Nat.zero_le _⟩ (fun H locs hP hD hS => ?_)
                      refine lv_goto (tgt := 199) hx hb dX7_send_190 (by decide) ?_
                      exact rt_i C hr hlk hP hD hS ((if_neg c_1).trans ((if_neg c_2).trans ((if_neg c_3).trans ((if_neg c_4).trans ((if_pos c_5).trans ((if_neg c_6).trans ((if_pos c_7).trans ((if_pos c_8).trans ((if_pos c_9).trans ((if_neg c_10).trans rfl)))))))))) dX7_send_199
                  · refine lv_aload_n hx hb dX7_send_169 rfl (lv_at hl 0 rfl) ?_
                    refine lv_iload_n hx hb dX7_send_170 rfl (lv_at hl 1 rfl) ?_
                    refine lv_iload_n hx hb dX7_send_171 rfl (lv_at hl 2 rfl) ?_
                    refine kv_i C (c_X7_first l D cI cZ ad u x1 x2 hA) (cwV 2 C.2.2.2.2.1 gX7_send_X7_first rfl rfl rfl hdX7_first ⟨Nat.le_of_ble_eq_true rfl, Nat.le_of_ble_eq_true rfl⟩) (ci := 7) (q0 := 0) rfl rfl rfl hP hD hS (sp_self (fun u => (w_7 cI ad u)) 9 (fun _ => rfl)) rfl hl.1 rfl (Nat.le_of_ble_eq_true rfl) dX7_send_172 ⟨Nat.zero_le _, Nat.zero_le _⟩ (fun H locs hP hD hS => ?_)
                    refine lv_goto (tgt := 199) hx hb dX7_send_175 (by decide) ?_
                    exact rt_i C hr hlk hP hD hS ((if_neg c_1).trans ((if_neg c_2).trans ((if_neg c_3).trans ((if_neg c_4).trans ((if_pos c_5).trans ((if_neg c_6).trans ((if_pos c_7).trans ((if_pos c_8).trans ((if_neg c_9).trans rfl))))))))) dX7_send_199
                · refine lv_iload_n hx hb dX7_send_113 rfl (lv_at hl 1 rfl) ?_
                  refine lv_bipush (v := 13) hx hb dX7_send_114 (by decide) ?_
                  refine lv_icmp_eq (tgt := 163) hx hb dX7_send_116 (by decide) (fun c_14 => ?_) (fun c_14 => ?_)
                  · refine lv_iload_n hx hb dX7_send_163 rfl (lv_at hl 1 rfl) ?_
                    refine lv_bipush (v := 16) hx hb dX7_send_164 (by decide) ?_
                    refine lv_icmp_ge (tgt := 178) hx hb dX7_send_166 (by decide) (fun c_15 => ?_) (fun c_15 => ?_)
                    · refine lv_iload_n hx hb dX7_send_178 rfl (lv_at hl 1 rfl) ?_
                      refine lv_bipush (v := 32) hx hb dX7_send_179 (by decide) ?_
                      refine lv_icmp_ge (tgt := 193) hx hb dX7_send_181 (by decide) (fun c_16 => ?_) (fun c_16 => ?_)
                      · refine lv_aload_n hx hb dX7_send_193 rfl (lv_at hl 0 rfl) ?_
                        refine lv_iload_n hx hb dX7_send_194 rfl (lv_at hl 1 rfl) ?_
                        refine lv_iload_n hx hb dX7_send_195 rfl (lv_at hl 2 rfl) ?_
                        refine kv_i C (c_X7_erases l D cI cZ ad u x1 x2 hA) (cwV 2 C.2.2.2.2.1 gX7_send_X7_erases rfl rfl rfl hdX7_erases ⟨Nat.le_of_ble_eq_true rfl, Nat.le_of_ble_eq_true rfl⟩) (ci := 7) (q0 := 0) rfl rfl rfl hP hD hS (sp_self (fun u => (w_7 cI ad u)) 9 (fun _ => rfl)) rfl hl.1 rfl (Nat.le_of_ble_eq_true rfl) dX7_send_196 ⟨Nat.zero_le _, Nat.zero_le _⟩ (fun H locs hP hD hS => ?_)
                        exact rt_i C hr hlk hP hD hS ((if_neg c_1).trans ((if_neg c_2).trans ((if_neg c_3).trans ((if_neg c_4).trans ((if_pos c_5).trans ((if_neg c_6).trans ((if_pos c_7).trans ((if_neg c_8).trans ((if_pos c_14).trans ((if_pos c_15).trans ((if_pos c_16).trans rfl))))))))))) dX7_send_199
                      · refine lv_aload_n hx hb dX7_send_184 rfl (lv_at hl 0 rfl) ?_
                        refine lv_iload_n hx hb dX7_send_185 rfl (lv_at hl 1 rfl) ?_
                        refine lv_iload_n hx hb dX7_send_186 rfl (lv_at hl 2 rfl) ?_
                        refine kv_i C (c_X7_streams l D cI cZ ad u x1 x2 ) (cwV 2 C.2.2.2.2.1 gX7_send_X7_streams rfl rfl rfl hdX7_streams ⟨Nat.le_of_ble_eq_true rfl, Nat.le_of_ble_eq_true rfl⟩) (ci := 7) (q0 := 0) rfl rfl rfl hP hD hS (sp_self (fun u => (w_7 cI ad u)) 9 (fun _ => rfl)) rfl hl.1 rfl (Nat.le_of_ble_eq_true rfl) dX7_send_187 ⟨Nat.zero_le _, Nat.zero_le _⟩ (fun H locs hP hD hS => ?_)
                        refine lv_goto (tgt := 199) hx hb dX7_send_190 (by decide) ?_
                        exact rt_i C hr hlk hP hD hS ((if_neg c_1).trans ((if_neg c_2).trans ((if_neg c_3).trans ((if_neg c_4).trans ((if_pos c_5).trans ((if_neg c_6).trans ((if_pos c_7).trans ((if_neg c_8).trans ((if_pos c_14).trans ((if_pos c_15).trans ((if_neg c_16).trans rfl))))))))))) dX7_send_199
                    · refine lv_aload_n hx hb dX7_send_169 rfl (lv_at hl 0 rfl) ?_
                      refine lv_iload_n hx hb dX7_send_170 rfl (lv_at hl 1 rfl) ?_
                      refine lv_iload_n hx hb dX7_send_171 rfl (lv_at hl 2 rfl) ?_
                      refine kv_i C (c_X7_first l D cI cZ ad u x1 x2 hA) (cwV 2 C.2.2.2.2.1 gX7_send_X7_first rfl rfl rfl hdX7_first ⟨Nat.le_of_ble_eq_true rfl, Nat.le_of_ble_eq_true rfl⟩) (ci := 7) (q0 := 0) rfl rfl rfl hP hD hS (sp_self (fun u => (w_7 cI ad u)) 9 (fun _ => rfl)) rfl hl.1 rfl (Nat.le_of_ble_eq_true rfl) dX7_send_172 ⟨Nat.zero_le _, Nat.zero_le _⟩ (fun H locs hP hD hS => ?_)
                      refine lv_goto (tgt := 199) hx hb dX7_send_175 (by decide) ?_
                      exact rt_i C hr hlk hP hD hS ((if_neg c_1).trans ((if_neg c_2).trans ((if_neg c_3).trans ((if_neg c_4).trans ((if_pos c_5).trans ((if_neg c_6).trans ((if_pos c_7).trans ((if_neg c_8).trans ((if_pos c_14).trans ((if_neg c_15).trans rfl)))))))))) dX7_send_199
                  · refine lv_iload_n hx hb dX7_send_119 rfl (lv_at hl 1 rfl) ?_
                    refine lv_bipush (v := 33) hx hb dX7_send_120 (by decide) ?_
                    refine lv_icmp_ne (tgt := 133) hx hb dX7_send_122 (by decide) (fun c_20 => ?_) (fun c_20 => ?_)
                    · refine lv_iload_n hx hb dX7_send_133 rfl (lv_at hl 1 rfl) ?_
                      refine lv_bipush (v := 38) hx hb dX7_send_134 (by decide) ?_
                      refine lv_icmp_ne (tgt := 147) hx hb dX7_send_136 (by decide) (fun c_21 => ?_) (fun c_21 => ?_)
                      · refine lv_aload_n hx hb dX7_send_147 rfl (lv_at hl 0 rfl) ?_
                        refine lv_iconst (v := 0) hx hb dX7_send_148 (by decide) ?_
                        refine pt7_32 C hP hD hS in_X7_send_7 ln_X7_send_7 dX7_send_149 (fun H locs hP hD hS => ?_)
                        refine lv_aload_n hx hb dX7_send_152 rfl (lv_at hl 0 rfl) ?_
                        refine lv_dup hx hb dX7_send_153 rfl ?_
                        refine gt7_22 C hP in_X7_send_7 ln_X7_send_5 (v := (u.1 22)) rfl dX7_send_154 ?_
                        refine lv_bipush (v := 8) hx hb dX7_send_157 (by decide) ?_
                        refine lv_ior hx hb dX7_send_159 ?_
                        refine pt7_22 C hP hD hS in_X7_send_7 ln_X7_send_5 dX7_send_160 (fun H locs hP hD hS => ?_)
                        refine lv_iload_n hx hb dX7_send_163 rfl (lv_at hl 1 rfl) ?_
                        refine lv_bipush (v := 16) hx hb dX7_send_164 (by decide) ?_
                        refine lv_icmp_ge (tgt := 178) hx hb dX7_send_166 (by decide) (fun c_22 => ?_) (fun c_22 => ?_)
                        · refine lv_iload_n hx hb dX7_send_178 rfl (lv_at hl 1 rfl) ?_
                          refine lv_bipush (v := 32) hx hb dX7_send_179 (by decide) ?_
                          refine lv_icmp_ge (tgt := 193) hx hb dX7_send_181 (by decide) (fun c_23 => ?_) (fun c_23 => ?_)
                          · refine lv_aload_n hx hb dX7_send_193 rfl (lv_at hl 0 rfl) ?_
                            refine lv_iload_n hx hb dX7_send_194 rfl (lv_at hl 1 rfl) ?_
                            refine lv_iload_n hx hb dX7_send_195 rfl (lv_at hl 2 rfl) ?_
                            refine kv_i C (c_X7_erases l D cI cZ ad (ob_i (ob_i u 32 0) 22 ((u.1 22) ||| 8)) x1 x2 hA) (cwV 2 C.2.2.2.2.1 gX7_send_X7_erases rfl rfl rfl hdX7_erases ⟨Nat.le_of_ble_eq_true rfl, Nat.le_of_ble_eq_true rfl⟩) (ci := 7) (q0 := 0) rfl rfl rfl hP hD hS (sp_self (fun u => (w_7 cI ad u)) 9 (fun _ => rfl)) rfl hl.1 rfl (Nat.le_of_ble_eq_true rfl) dX7_send_196 ⟨Nat.zero_le _, Nat.zero_le _⟩ (fun H locs hP hD hS => ?_)
                            exact rt_i C hr hlk hP hD hS ((if_neg c_1).trans ((if_neg c_2).trans ((if_neg c_3).trans ((if_neg c_4).trans ((if_pos c_5).trans ((if_neg c_6).trans ((if_pos c_7).trans ((if_neg c_8).trans ((if_neg c_14).trans ((if_neg c_20).trans ((if_neg c_21).trans ((if_pos c_22).trans ((if_pos c_23).trans rfl))))))))))))) dX7_send_199
                          · refine lv_aload_n hx hb dX7_send_184 rfl (lv_at hl 0 rfl) ?_
                            refine lv_iload_n hx hb dX7_send_185 rfl (lv_at hl 1 rfl) ?_
                            refine lv_iload_n hx hb dX7_send_186 rfl (lv_at hl 2 rfl) ?_
                            refine kv_i C (c_X7_streams l D cI cZ ad (ob_i (ob_i u 32 0) 22 ((u.1 22) ||| 8)) x1 x2 ) (cwV 2 C.2.2.2.2.1 gX7_send_X7_streams rfl rfl rfl hdX7_streams ⟨Nat.le_of_ble_eq_true rfl, Nat.le_of_ble_eq_true rfl⟩) (ci := 7) (q0 := 0) rfl rfl rfl hP hD hS (sp_self (fun u => (w_7 cI ad u)) 9 (fun _ => rfl)) rfl hl.1 rfl (Nat.le_of_ble_eq_true rfl) dX7_send_187 ⟨Nat.zero_le _, Nat.zero_le _⟩ (fun H locs hP hD hS => ?_)
                            refine lv_goto (tgt := 199) hx hb dX7_send_190 (by decide) ?_
                            exact rt_i C hr hlk hP hD hS ((if_neg c_1).trans ((if_neg c_2).trans ((if_neg c_3).trans ((if_neg c_4).trans ((if_pos c_5).trans ((if_neg c_6).trans ((if_pos c_7).trans ((if_neg c_8).trans ((if_neg c_14).trans ((if_neg c_20).trans ((if_neg c_21).trans ((if_pos c_22).trans ((if_neg c_23).trans rfl))))))))))))) dX7_send_199
                        · refine lv_aload_n hx hb dX7_send_169 rfl (lv_at hl 0 rfl) ?_
                          refine lv_iload_n hx hb dX7_send_170 rfl (lv_at hl 1 rfl) ?_
                          refine lv_iload_n hx hb dX7_send_171 rfl (lv_at hl 2 rfl) ?_
                          refine kv_i C (c_X7_first l D cI cZ ad (ob_i (ob_i u 32 0) 22 ((u.1 22) ||| 8)) x1 x2 hA) (cwV 2 C.2.2.2.2.1 gX7_send_X7_first rfl rfl rfl hdX7_first ⟨Nat.le_of_ble_eq_true rfl, Nat.le_of_ble_eq_true rfl⟩) (ci := 7) (q0 := 0) rfl rfl rfl hP hD hS (sp_self (fun u => (w_7 cI ad u)) 9 (fun _ => rfl)) rfl hl.1 rfl (Nat.le_of_ble_eq_true rfl) dX7_send_172 ⟨Nat.zero_le _, Nat.zero_le _⟩ (fun H locs hP hD hS => ?_)
                          refine lv_goto (tgt := 199) hx hb dX7_send_175 (by decide) ?_
                          exact rt_i C hr hlk hP hD hS ((if_neg c_1).trans ((if_neg c_2).trans ((if_neg c_3).trans ((if_neg c_4).trans ((if_pos c_5).trans ((if_neg c_6).trans ((if_pos c_7).trans ((if_neg c_8).trans ((if_neg c_14).trans ((if_neg c_20).trans ((if_neg c_21).trans ((if_neg c_22).trans rfl)))))))))))) dX7_send_199
                      · refine lv_aload_n hx hb dX7_send_139 rfl (lv_at hl 0 rfl) ?_
                        refine gt7_32 C hP in_X7_send_7 ln_X7_send_7 (v := (u.1 32)) rfl dX7_send_140 ?_
                        refine lv_iconst (v := 2) hx hb dX7_send_143 (by decide) ?_
                        refine lv_icmp_eq (tgt := 163) hx hb dX7_send_144 (by decide) (fun c_27 => ?_) (fun c_27 => ?_)
                        · refine lv_iload_n hx hb dX7_send_163 rfl (lv_at hl 1 rfl) ?_
                          refine lv_bipush (v := 16) hx hb dX7_send_164 (by decide) ?_
                          refine lv_icmp_ge (tgt := 178) hx hb dX7_send_166 (by decide) (fun c_28 => ?_) (fun c_28 => ?_)
                          · refine lv_iload_n hx hb dX7_send_178 rfl (lv_at hl 1 rfl) ?_
                            refine lv_bipush (v := 32) hx hb dX7_send_179 (by decide) ?_
                            refine lv_icmp_ge (tgt := 193) hx hb dX7_send_181 (by decide) (fun c_29 => ?_) (fun c_29 => ?_)
                            · refine lv_aload_n hx hb dX7_send_193 rfl (lv_at hl 0 rfl) ?_
                              refine lv_iload_n hx hb dX7_send_194 rfl (lv_at hl 1 rfl) ?_
                              refine lv_iload_n hx hb dX7_send_195 rfl (lv_at hl 2 rfl) ?_
                              refine kv_i C (c_X7_erases l D cI cZ ad u x1 x2 hA) (cwV 2 C.2.2.2.2.1 gX7_send_X7_erases rfl rfl rfl hdX7_erases ⟨Nat.le_of_ble_eq_true rfl, Nat.le_of_ble_eq_true rfl⟩) (ci := 7) (q0 := 0) rfl rfl rfl hP hD hS (sp_self (fun u => (w_7 cI ad u)) 9 (fun _ => rfl)) rfl hl.1 rfl (Nat.le_of_ble_eq_true rfl) dX7_send_196 ⟨Nat.zero_le _, Nat.zero_le _⟩ (fun H locs hP hD hS => ?_)
                              exact rt_i C hr hlk hP hD hS ((if_neg c_1).trans ((if_neg c_2).trans ((if_neg c_3).trans ((if_neg c_4).trans ((if_pos c_5).trans ((if_neg c_6).trans ((if_pos c_7).trans ((if_neg c_8).trans ((if_neg c_14).trans ((if_neg c_20).trans ((if_pos c_21).trans ((if_pos c_27).trans ((if_pos c_28).trans ((if_pos c_29).trans rfl)))))))))))))) dX7_send_199
                            · refine lv_aload_n hx hb dX7_send_184 rfl (lv_at hl 0 rfl) ?_
                              refine lv_iload_n hx hb dX7_send_185 rfl (lv_at hl 1 rfl) ?_
                              refine lv_iload_n hx hb dX7_send_186 rfl (lv_at hl 2 rfl) ?_
                              refine kv_i C (c_X7_streams l D cI cZ ad u x1 x2 ) (cwV 2 C.2.2.2.2.1 gX7_send_X7_streams rfl rfl rfl hdX7_streams ⟨Nat.le_of_ble_eq_true rfl, Nat.le_of_ble_eq_true rfl⟩) (ci := 7) (q0 := 0) rfl rfl rfl hP hD hS (sp_self (fun u => (w_7 cI ad u)) 9 (fun _ => rfl)) rfl hl.1 rfl (Nat.le_of_ble_eq_true rfl) dX7_send_187 ⟨Nat.zero_le _, Nat.zero_le _⟩ (fun H locs hP hD hS => ?_)
                              refine lv_goto (tgt := 199) hx hb dX7_send_190 (by decide) ?_
                              exact rt_i C hr hlk hP hD hS ((if_neg c_1).trans ((if_neg c_2).trans ((if_neg c_3).trans ((if_neg c_4).trans ((if_pos c_5).trans ((if_neg c_6).trans ((if_pos c_7).trans ((if_neg c_8).trans ((if_neg c_14).trans ((if_neg c_20).trans ((if_pos c_21).trans ((if_pos c_27).trans ((if_pos c_28).trans ((if_neg c_29).trans rfl)))))))))))))) dX7_send_199
                          · refine lv_aload_n hx hb dX7_send_169 rfl (lv_at hl 0 rfl) ?_
                            refine lv_iload_n hx hb dX7_send_170 rfl (lv_at hl 1 rfl) ?_
                            refine lv_iload_n hx hb dX7_send_171 rfl (lv_at hl 2 rfl) ?_
                            refine kv_i C (c_X7_first l D cI cZ ad u x1 x2 hA) (cwV 2 C.2.2.2.2.1 gX7_send_X7_first rfl rfl rfl hdX7_first ⟨Nat.le_of_ble_eq_true rfl, Nat.le_of_ble_eq_true rfl⟩) (ci := 7) (q0 := 0) rfl rfl rfl hP hD hS (sp_self (fun u => (w_7 cI ad u)) 9 (fun _ => rfl)) rfl hl.1 rfl (Nat.le_of_ble_eq_true rfl) dX7_send_172 ⟨Nat.zero_le _, Nat.zero_le _⟩ (fun H locs hP hD hS => ?_)
                            refine lv_goto (tgt := 199) hx hb dX7_send_175 (by decide) ?_
                            exact rt_i C hr hlk hP hD hS ((if_neg c_1).trans ((if_neg c_2).trans ((if_neg c_3).trans ((if_neg c_4).trans ((if_pos c_5).trans ((if_neg c_6).trans ((if_pos c_7).trans ((if_neg c_8).trans ((if_neg c_14).trans ((if_neg c_20).trans ((if_pos c_21).trans ((if_pos c_27).trans ((if_neg c_28).trans rfl))))))))))))) dX7_send_199
                        · refine lv_aload_n hx hb dX7_send_147 rfl (lv_at hl 0 rfl) ?_
                          refine lv_iconst (v := 0) hx hb dX7_send_148 (by decide) ?_
                          refine pt7_32 C hP hD hS in_X7_send_7 ln_X7_send_7 dX7_send_149 (fun H locs hP hD hS => ?_)
                          refine lv_aload_n hx hb dX7_send_152 rfl (lv_at hl 0 rfl) ?_
                          refine lv_dup hx hb dX7_send_153 rfl ?_
                          refine gt7_22 C hP in_X7_send_7 ln_X7_send_5 (v := (u.1 22)) rfl dX7_send_154 ?_
                          refine lv_bipush (v := 8) hx hb dX7_send_157 (by decide) ?_
                          refine lv_ior hx hb dX7_send_159 ?_
                          refine pt7_22 C hP hD hS in_X7_send_7 ln_X7_send_5 dX7_send_160 (fun H locs hP hD hS => ?_)
                          refine lv_iload_n hx hb dX7_send_163 rfl (lv_at hl 1 rfl) ?_
                          refine lv_bipush (v := 16) hx hb dX7_send_164 (by decide) ?_
                          refine lv_icmp_ge (tgt := 178) hx hb dX7_send_166 (by decide) (fun c_33 => ?_) (fun c_33 => ?_)
                          · refine lv_iload_n hx hb dX7_send_178 rfl (lv_at hl 1 rfl) ?_
                            refine lv_bipush (v := 32) hx hb dX7_send_179 (by decide) ?_
                            refine lv_icmp_ge (tgt := 193) hx hb dX7_send_181 (by decide) (fun c_34 => ?_) (fun c_34 => ?_)
                            · refine lv_aload_n hx hb dX7_send_193 rfl (lv_at hl 0 rfl) ?_
                              refine lv_iload_n hx hb dX7_send_194 rfl (lv_at hl 1 rfl) ?_
                              refine lv_iload_n hx hb dX7_send_195 rfl (lv_at hl 2 rfl) ?_
                              refine kv_i C (c_X7_erases l D cI cZ ad (ob_i (ob_i u 32 0) 22 ((u.1 22) ||| 8)) x1 x2 hA) (cwV 2 C.2.2.2.2.1 gX7_send_X7_erases rfl rfl rfl hdX7_erases ⟨Nat.le_of_ble_eq_true rfl, Nat.le_of_ble_eq_true rfl⟩) (ci := 7) (q0 := 0) rfl rfl rfl hP hD hS (sp_self (fun u => (w_7 cI ad u)) 9 (fun _ => rfl)) rfl hl.1 rfl (Nat.le_of_ble_eq_true rfl) dX7_send_196 ⟨Nat.zero_le _, Nat.zero_le _⟩ (fun H locs hP hD hS => ?_)
                              exact rt_i C hr hlk hP hD hS ((if_neg c_1).trans ((if_neg c_2).trans ((if_neg c_3).trans ((if_neg c_4).trans ((if_pos c_5).trans ((if_neg c_6).trans ((if_pos c_7).trans ((if_neg c_8).trans ((if_neg c_14).trans ((if_neg c_20).trans ((if_pos c_21).trans ((if_neg c_27).trans ((if_pos c_33).trans ((if_pos c_34).trans rfl)))))))))))))) dX7_send_199
                            · refine lv_aload_n hx hb dX7_send_184 rfl (lv_at hl 0 rfl) ?_
                              refine lv_iload_n hx hb dX7_send_185 rfl (lv_at hl 1 rfl) ?_
                              refine lv_iload_n hx hb dX7_send_186 rfl (lv_at hl 2 rfl) ?_
                              refine kv_i C (c_X7_streams l D cI cZ ad (ob_i (ob_i u 32 0) 22 ((u.1 22) ||| 8)) x1 x2 ) (cwV 2 C.2.2.2.2.1 gX7_send_X7_streams rfl rfl rfl hdX7_streams ⟨Nat.le_of_ble_eq_true rfl, Nat.le_of_ble_eq_true rfl⟩) (ci := 7) (q0 := 0) rfl rfl rfl hP hD hS (sp_self (fun u => (w_7 cI ad u)) 9 (fun _ => rfl)) rfl hl.1 rfl (Nat.le_of_ble_eq_true rfl) dX7_send_187 ⟨Nat.zero_le _, Nat.zero_le _⟩ (fun H locs hP hD hS => ?_)
                              refine lv_goto (tgt := 199) hx hb dX7_send_190 (by decide) ?_
                              exact rt_i C hr hlk hP hD hS ((if_neg c_1).trans ((if_neg c_2).trans ((if_neg c_3).trans ((if_neg c_4).trans ((if_pos c_5).trans ((if_neg c_6).trans ((if_pos c_7).trans ((if_neg c_8).trans ((if_neg c_14).trans ((if_neg c_20).trans ((if_pos c_21).trans ((if_neg c_27).trans ((if_pos c_33).trans ((if_neg c_34).trans rfl)))))))))))))) dX7_send_199
                          · refine lv_aload_n hx hb dX7_send_169 rfl (lv_at hl 0 rfl) ?_
                            refine lv_iload_n hx hb dX7_send_170 rfl (lv_at hl 1 rfl) ?_
                            refine lv_iload_n hx hb dX7_send_171 rfl (lv_at hl 2 rfl) ?_
                            refine kv_i C (c_X7_first l D cI cZ ad (ob_i (ob_i u 32 0) 22 ((u.1 22) ||| 8)) x1 x2 hA) (cwV 2 C.2.2.2.2.1 gX7_send_X7_first rfl rfl rfl hdX7_first ⟨Nat.le_of_ble_eq_true rfl, Nat.le_of_ble_eq_true rfl⟩) (ci := 7) (q0 := 0) rfl rfl rfl hP hD hS (sp_self (fun u => (w_7 cI ad u)) 9 (fun _ => rfl)) rfl hl.1 rfl (Nat.le_of_ble_eq_true rfl) dX7_send_172 ⟨Nat.zero_le _, Nat.zero_le _⟩ (fun H locs hP hD hS => ?_)
                            refine lv_goto (tgt := 199) hx hb dX7_send_175 (by decide) ?_
                            exact rt_i C hr hlk hP hD hS ((if_neg c_1).trans ((if_neg c_2).trans ((if_neg c_3).trans ((if_neg c_4).trans ((if_pos c_5).trans ((if_neg c_6).trans ((if_pos c_7).trans ((if_neg c_8).trans ((if_neg c_14).trans ((if_neg c_20).trans ((if_pos c_21).trans ((if_neg c_27).trans ((if_neg c_33).trans rfl))))))))))))) dX7_send_199
                    · refine lv_aload_n hx hb dX7_send_125 rfl (lv_at hl 0 rfl) ?_
                      refine gt7_32 C hP in_X7_send_7 ln_X7_send_7 (v := (u.1 32)) rfl dX7_send_126 ?_
                      refine lv_iconst (v := 1) hx hb dX7_send_129 (by decide) ?_
                      refine lv_icmp_eq (tgt := 163) hx hb dX7_send_130 (by decide) (fun c_38 => ?_) (fun c_38 => ?_)
                      · refine lv_iload_n hx hb dX7_send_163 rfl (lv_at hl 1 rfl) ?_
                        refine lv_bipush (v := 16) hx hb dX7_send_164 (by decide) ?_
                        refine lv_icmp_ge (tgt := 178) hx hb dX7_send_166 (by decide) (fun c_39 => ?_) (fun c_39 => ?_)
                        · refine lv_iload_n hx hb dX7_send_178 rfl (lv_at hl 1 rfl) ?_
                          refine lv_bipush (v := 32) hx hb dX7_send_179 (by decide) ?_
                          refine lv_icmp_ge (tgt := 193) hx hb dX7_send_181 (by decide) (fun c_40 => ?_) (fun c_40 => ?_)
                          · refine lv_aload_n hx hb dX7_send_193 rfl (lv_at hl 0 rfl) ?_
                            refine lv_iload_n hx hb dX7_send_194 rfl (lv_at hl 1 rfl) ?_
                            refine lv_iload_n hx hb dX7_send_195 rfl (lv_at hl 2 rfl) ?_
                            refine kv_i C (c_X7_erases l D cI cZ ad u x1 x2 hA) (cwV 2 C.2.2.2.2.1 gX7_send_X7_erases rfl rfl rfl hdX7_erases ⟨Nat.le_of_ble_eq_true rfl, Nat.le_of_ble_eq_true rfl⟩) (ci := 7) (q0 := 0) rfl rfl rfl hP hD hS (sp_self (fun u => (w_7 cI ad u)) 9 (fun _ => rfl)) rfl hl.1 rfl (Nat.le_of_ble_eq_true rfl) dX7_send_196 ⟨Nat.zero_le _, Nat.zero_le _⟩ (fun H locs hP hD hS => ?_)
                            exact rt_i C hr hlk hP hD hS ((if_neg c_1).trans ((if_neg c_2).trans ((if_neg c_3).trans ((if_neg c_4).trans ((if_pos c_5).trans ((if_neg c_6).trans ((if_pos c_7).trans ((if_neg c_8).trans ((if_neg c_14).trans ((if_pos c_20).trans ((if_pos c_38).trans ((if_pos c_39).trans ((if_pos c_40).trans rfl))))))))))))) dX7_send_199
                          · refine lv_aload_n hx hb dX7_send_184 rfl (lv_at hl 0 rfl) ?_
                            refine lv_iload_n hx hb dX7_send_185 rfl (lv_at hl 1 rfl) ?_
                            refine lv_iload_n hx hb dX7_send_186 rfl (lv_at hl 2 rfl) ?_
                            refine kv_i C (c_X7_streams l D cI cZ ad u x1 x2 ) (cwV 2 C.2.2.2.2.1 gX7_send_X7_streams rfl rfl rfl hdX7_streams ⟨Nat.le_of_ble_eq_true rfl, Nat.le_of_ble_eq_true rfl⟩) (ci := 7) (q0 := 0) rfl rfl rfl hP hD hS (sp_self (fun u => (w_7 cI ad u)) 9 (fun _ => rfl)) rfl hl.1 rfl (Nat.le_of_ble_eq_true rfl) dX7_send_187 ⟨Nat.zero_le _, Nat.zero_le _⟩ (fun H locs hP hD hS => ?_)
                            refine lv_goto (tgt := 199) hx hb dX7_send_190 (by decide) ?_
                            exact rt_i C hr hlk hP hD hS ((if_neg c_1).trans ((if_neg c_2).trans ((if_neg c_3).trans ((if_neg c_4).trans ((if_pos c_5).trans ((if_neg c_6).trans ((if_pos c_7).trans ((if_neg c_8).trans ((if_neg c_14).trans ((if_pos c_20).trans ((if_pos c_38).trans ((if_pos c_39).trans ((if_neg c_40).trans rfl))))))))))))) dX7_send_199
                        · refine lv_aload_n hx hb dX7_send_169 rfl (lv_at hl 0 rfl) ?_
                          refine lv_iload_n hx hb dX7_send_170 rfl (lv_at hl 1 rfl) ?_
                          refine lv_iload_n hx hb dX7_send_171 rfl (lv_at hl 2 rfl) ?_
                          refine kv_i C (c_X7_first l D cI cZ ad u x1 x2 hA) (cwV 2 C.2.2.2.2.1 gX7_send_X7_first rfl rfl rfl hdX7_first ⟨Nat.le_of_ble_eq_true rfl, Nat.le_of_ble_eq_true rfl⟩) (ci := 7) (q0 := 0) rfl rfl rfl hP hD hS (sp_self (fun u => (w_7 cI ad u)) 9 (fun _ => rfl)) rfl hl.1 rfl (Nat.le_of_ble_eq_true rfl) dX7_send_172 ⟨Nat.zero_le _, Nat.zero_le _⟩ (fun H locs hP hD hS => ?_)
                          refine lv_goto (tgt := 199) hx hb dX7_send_175 (by decide) ?_
                          exact rt_i C hr hlk hP hD hS ((if_neg c_1).trans ((if_neg c_2).trans ((if_neg c_3).trans ((if_neg c_4).trans ((if_pos c_5).trans ((if_neg c_6).trans ((if_pos c_7).trans ((if_neg c_8).trans ((if_neg c_14).trans ((if_pos c_20).trans ((if_pos c_38).trans ((if_neg c_39).trans rfl)))))))))))) dX7_send_199
                      · refine lv_iload_n hx hb dX7_send_133 rfl (lv_at hl 1 rfl) ?_
                        refine lv_bipush (v := 38) hx hb dX7_send_134 (by decide) ?_
                        refine lv_icmp_ne (tgt := 147) hx hb dX7_send_136 (by decide) (fun c_44 => ?_) (fun c_44 => ?_)
                        · refine lv_aload_n hx hb dX7_send_147 rfl (lv_at hl 0 rfl) ?_
                          refine lv_iconst (v := 0) hx hb dX7_send_148 (by decide) ?_
                          refine pt7_32 C hP hD hS in_X7_send_7 ln_X7_send_7 dX7_send_149 (fun H locs hP hD hS => ?_)
                          refine lv_aload_n hx hb dX7_send_152 rfl (lv_at hl 0 rfl) ?_
                          refine lv_dup hx hb dX7_send_153 rfl ?_
                          refine gt7_22 C hP in_X7_send_7 ln_X7_send_5 (v := (u.1 22)) rfl dX7_send_154 ?_
                          refine lv_bipush (v := 8) hx hb dX7_send_157 (by decide) ?_
                          refine lv_ior hx hb dX7_send_159 ?_
                          refine pt7_22 C hP hD hS in_X7_send_7 ln_X7_send_5 dX7_send_160 (fun H locs hP hD hS => ?_)
                          refine lv_iload_n hx hb dX7_send_163 rfl (lv_at hl 1 rfl) ?_
                          refine lv_bipush (v := 16) hx hb dX7_send_164 (by decide) ?_
                          refine lv_icmp_ge (tgt := 178) hx hb dX7_send_166 (by decide) (fun c_45 => ?_) (fun c_45 => ?_)
                          · refine lv_iload_n hx hb dX7_send_178 rfl (lv_at hl 1 rfl) ?_
                            refine lv_bipush (v := 32) hx hb dX7_send_179 (by decide) ?_
                            refine lv_icmp_ge (tgt := 193) hx hb dX7_send_181 (by decide) (fun c_46 => ?_) (fun c_46 => ?_)
                            · refine lv_aload_n hx hb dX7_send_193 rfl (lv_at hl 0 rfl) ?_
                              refine lv_iload_n hx hb dX7_send_194 rfl (lv_at hl 1 rfl) ?_
                              refine lv_iload_n hx hb dX7_send_195 rfl (lv_at hl 2 rfl) ?_
                              refine kv_i C (c_X7_erases l D cI cZ ad (ob_i (ob_i u 32 0) 22 ((u.1 22) ||| 8)) x1 x2 hA) (cwV 2 C.2.2.2.2.1 gX7_send_X7_erases rfl rfl rfl hdX7_erases ⟨Nat.le_of_ble_eq_true rfl, Nat.le_of_ble_eq_true rfl⟩) (ci := 7) (q0 := 0) rfl rfl rfl hP hD hS (sp_self (fun u => (w_7 cI ad u)) 9 (fun _ => rfl)) rfl hl.1 rfl (Nat.le_of_ble_eq_true rfl) dX7_send_196 ⟨Nat.zero_le _, Nat.zero_le _⟩ (fun H locs hP hD hS => ?_)
                              exact rt_i C hr hlk hP hD hS ((if_neg c_1).trans ((if_neg c_2).trans ((if_neg c_3).trans ((if_neg c_4).trans ((if_pos c_5).trans ((if_neg c_6).trans ((if_pos c_7).trans ((if_neg c_8).trans ((if_neg c_14).trans ((if_pos c_20).trans ((if_neg c_38).trans ((if_neg c_44).trans ((if_pos c_45).trans ((if_pos c_46).trans rfl)))))))))))))) dX7_send_199
                            · refine lv_aload_n hx hb dX7_send_184 rfl (lv_at hl 0 rfl) ?_
                              refine lv_iload_n hx hb dX7_send_185 rfl (lv_at hl 1 rfl) ?_
                              refine lv_iload_n hx hb dX7_send_186 rfl (lv_at hl 2 rfl) ?_
                              refine kv_i C (c_X7_streams l D cI cZ ad (ob_i (ob_i u 32 0) 22 ((u.1 22) ||| 8)) x1 x2 ) (cwV 2 C.2.2.2.2.1 gX7_send_X7_streams rfl rfl rfl hdX7_streams ⟨Nat.le_of_ble_eq_true rfl, Nat.le_of_ble_eq_true rfl⟩) (ci := 7) (q0 := 0) rfl rfl rfl hP hD hS (sp_self (fun u => (w_7 cI ad u)) 9 (fun _ => rfl)) rfl hl.1 rfl (Nat.le_of_ble_eq_true rfl) dX7_send_187 ⟨Nat.zero_le _, Nat.zero_le _⟩ (fun H locs hP hD hS => ?_)
                              refine lv_goto (tgt := 199) hx hb dX7_send_190 (by decide) ?_
                              exact rt_i C hr hlk hP hD hS ((if_neg c_1).trans ((if_neg c_2).trans ((if_neg c_3).trans ((if_neg c_4).trans ((if_pos c_5).trans ((if_neg c_6).trans ((if_pos c_7).trans ((if_neg c_8).trans ((if_neg c_14).trans ((if_pos c_20).trans ((if_neg c_38).trans ((if_neg c_44).trans ((if_pos c_45).trans ((if_neg c_46).trans rfl)))))))))))))) dX7_send_199
                          · refine lv_aload_n hx hb dX7_send_169 rfl (lv_at hl 0 rfl) ?_
                            refine lv_iload_n hx hb dX7_send_170 rfl (lv_at hl 1 rfl) ?_
                            refine lv_iload_n hx hb dX7_send_171 rfl (lv_at hl 2 rfl) ?_
                            refine kv_i C (c_X7_first l D cI cZ ad (ob_i (ob_i u 32 0) 22 ((u.1 22) ||| 8)) x1 x2 hA) (cwV 2 C.2.2.2.2.1 gX7_send_X7_first rfl rfl rfl hdX7_first ⟨Nat.le_of_ble_eq_true rfl, Nat.le_of_ble_eq_true rfl⟩) (ci := 7) (q0 := 0) rfl rfl rfl hP hD hS (sp_self (fun u => (w_7 cI ad u)) 9 (fun _ => rfl)) rfl hl.1 rfl (Nat.le_of_ble_eq_true rfl) dX7_send_172 ⟨Nat.zero_le _, Nat.zero_le _⟩ (fun H locs hP hD hS => ?_)
                            refine lv_goto (tgt := 199) hx hb dX7_send_175 (by decide) ?_
                            exact rt_i C hr hlk hP hD hS ((if_neg c_1).trans ((if_neg c_2).trans ((if_neg c_3).trans ((if_neg c_4).trans ((if_pos c_5).trans ((if_neg c_6).trans ((if_pos c_7).trans ((if_neg c_8).trans ((if_neg c_14).trans ((if_pos c_20).trans ((if_neg c_38).trans ((if_neg c_44).trans ((if_neg c_45).trans rfl))))))))))))) dX7_send_199
                        · refine lv_aload_n hx hb dX7_send_139 rfl (lv_at hl 0 rfl) ?_
                          refine gt7_32 C hP in_X7_send_7 ln_X7_send_7 (v := (u.1 32)) rfl dX7_send_140 ?_
                          refine lv_iconst (v := 2) hx hb dX7_send_143 (by decide) ?_
                          refine lv_icmp_eq (tgt := 163) hx hb dX7_send_144 (by decide) (fun c_50 => ?_) (fun c_50 => ?_)
                          · refine lv_iload_n hx hb dX7_send_163 rfl (lv_at hl 1 rfl) ?_
                            refine lv_bipush (v := 16) hx hb dX7_send_164 (by decide) ?_
                            refine lv_icmp_ge (tgt := 178) hx hb dX7_send_166 (by decide) (fun c_51 => ?_) (fun c_51 => ?_)
                            · refine lv_iload_n hx hb dX7_send_178 rfl (lv_at hl 1 rfl) ?_
                              refine lv_bipush (v := 32) hx hb dX7_send_179 (by decide) ?_
                              refine lv_icmp_ge (tgt := 193) hx hb dX7_send_181 (by decide) (fun c_52 => ?_) (fun c_52 => ?_)
                              · refine lv_aload_n hx hb dX7_send_193 rfl (lv_at hl 0 rfl) ?_
                                refine lv_iload_n hx hb dX7_send_194 rfl (lv_at hl 1 rfl) ?_
                                refine lv_iload_n hx hb dX7_send_195 rfl (lv_at hl 2 rfl) ?_
                                refine kv_i C (c_X7_erases l D cI cZ ad u x1 x2 hA) (cwV 2 C.2.2.2.2.1 gX7_send_X7_erases rfl rfl rfl hdX7_erases ⟨Nat.le_of_ble_eq_true rfl, Nat.le_of_ble_eq_true rfl⟩) (ci := 7) (q0 := 0) rfl rfl rfl hP hD hS (sp_self (fun u => (w_7 cI ad u)) 9 (fun _ => rfl)) rfl hl.1 rfl (Nat.le_of_ble_eq_true rfl) dX7_send_196 ⟨Nat.zero_le _, Nat.zero_le _⟩ (fun H locs hP hD hS => ?_)
                                exact rt_i C hr hlk hP hD hS ((if_neg c_1).trans ((if_neg c_2).trans ((if_neg c_3).trans ((if_neg c_4).trans ((if_pos c_5).trans ((if_neg c_6).trans ((if_pos c_7).trans ((if_neg c_8).trans ((if_neg c_14).trans ((if_pos c_20).trans ((if_neg c_38).trans ((if_pos c_44).trans ((if_pos c_50).trans ((if_pos c_51).trans ((if_pos c_52).trans rfl))))))))))))))) dX7_send_199
                              · refine lv_aload_n hx hb dX7_send_184 rfl (lv_at hl 0 rfl) ?_
                                refine lv_iload_n hx hb dX7_send_185 rfl (lv_at hl 1 rfl) ?_
                                refine lv_iload_n hx hb dX7_send_186 rfl (lv_at hl 2 rfl) ?_
                                refine kv_i C (c_X7_streams l D cI cZ ad u x1 x2 ) (cwV 2 C.2.2.2.2.1 gX7_send_X7_streams rfl rfl rfl hdX7_streams ⟨Nat.le_of_ble_eq_true rfl, Nat.le_of_ble_eq_true rfl⟩) (ci := 7) (q0 := 0) rfl rfl rfl hP hD hS (sp_self (fun u => (w_7 cI ad u)) 9 (fun _ => rfl)) rfl hl.1 rfl (Nat.le_of_ble_eq_true rfl) dX7_send_187 ⟨Nat.zero_le _, Nat.zero_le _⟩ (fun H locs hP hD hS => ?_)
                                refine lv_goto (tgt := 199) hx hb dX7_send_190 (by decide) ?_
                                exact rt_i C hr hlk hP hD hS ((if_neg c_1).trans ((if_neg c_2).trans ((if_neg c_3).trans ((if_neg c_4).trans ((if_pos c_5).trans ((if_neg c_6).trans ((if_pos c_7).trans ((if_neg c_8).trans ((if_neg c_14).trans ((if_pos c_20).trans ((if_neg c_38).trans ((if_pos c_44).trans ((if_pos c_50).trans ((if_pos c_51).trans ((if_neg c_52).trans rfl))))))))))))))) dX7_send_199
                            · refine lv_aload_n hx hb dX7_send_169 rfl (lv_at hl 0 rfl) ?_
                              refine lv_iload_n hx hb dX7_send_170 rfl (lv_at hl 1 rfl) ?_
                              refine lv_iload_n hx hb dX7_send_171 rfl (lv_at hl 2 rfl) ?_
                              refine kv_i C (c_X7_first l D cI cZ ad u x1 x2 hA) (cwV 2 C.2.2.2.2.1 gX7_send_X7_first rfl rfl rfl hdX7_first ⟨Nat.le_of_ble_eq_true rfl, Nat.le_of_ble_eq_true rfl⟩) (ci := 7) (q0 := 0) rfl rfl rfl hP hD hS (sp_self (fun u => (w_7 cI ad u)) 9 (fun _ => rfl)) rfl hl.1 rfl (Nat.le_of_ble_eq_true rfl) dX7_send_172 ⟨Nat.zero_le _, Nat.zero_le _⟩ (fun H locs hP hD hS => ?_)
                              refine lv_goto (tgt := 199) hx hb dX7_send_175 (by decide) ?_
                              exact rt_i C hr hlk hP hD hS ((if_neg c_1).trans ((if_neg c_2).trans ((if_neg c_3).trans ((if_neg c_4).trans ((if_pos c_5).trans ((if_neg c_6).trans ((if_pos c_7).trans ((if_neg c_8).trans ((if_neg c_14).trans ((if_pos c_20).trans ((if_neg c_38).trans ((if_pos c_44).trans ((if_pos c_50).trans ((if_neg c_51).trans rfl)))))))))))))) dX7_send_199
                          · refine lv_aload_n hx hb dX7_send_147 rfl (lv_at hl 0 rfl) ?_
                            refine lv_iconst (v := 0) hx hb dX7_send_148 (by decide) ?_
                            refine pt7_32 C hP hD hS in_X7_send_7 ln_X7_send_7 dX7_send_149 (fun H locs hP hD hS => ?_)
                            refine lv_aload_n hx hb dX7_send_152 rfl (lv_at hl 0 rfl) ?_
                            refine lv_dup hx hb dX7_send_153 rfl ?_
                            refine gt7_22 C hP in_X7_send_7 ln_X7_send_5 (v := (u.1 22)) rfl dX7_send_154 ?_
                            refine lv_bipush (v := 8) hx hb dX7_send_157 (by decide) ?_
                            refine lv_ior hx hb dX7_send_159 ?_
                            refine pt7_22 C hP hD hS in_X7_send_7 ln_X7_send_5 dX7_send_160 (fun H locs hP hD hS => ?_)
                            refine lv_iload_n hx hb dX7_send_163 rfl (lv_at hl 1 rfl) ?_
                            refine lv_bipush (v := 16) hx hb dX7_send_164 (by decide) ?_
                            refine lv_icmp_ge (tgt := 178) hx hb dX7_send_166 (by decide) (fun c_56 => ?_) (fun c_56 => ?_)
                            · refine lv_iload_n hx hb dX7_send_178 rfl (lv_at hl 1 rfl) ?_
                              refine lv_bipush (v := 32) hx hb dX7_send_179 (by decide) ?_
                              refine lv_icmp_ge (tgt := 193) hx hb dX7_send_181 (by decide) (fun c_57 => ?_) (fun c_57 => ?_)
                              · refine lv_aload_n hx hb dX7_send_193 rfl (lv_at hl 0 rfl) ?_
                                refine lv_iload_n hx hb dX7_send_194 rfl (lv_at hl 1 rfl) ?_
                                refine lv_iload_n hx hb dX7_send_195 rfl (lv_at hl 2 rfl) ?_
                                refine kv_i C (c_X7_erases l D cI cZ ad (ob_i (ob_i u 32 0) 22 ((u.1 22) ||| 8)) x1 x2 hA) (cwV 2 C.2.2.2.2.1 gX7_send_X7_erases rfl rfl rfl hdX7_erases ⟨Nat.le_of_ble_eq_true rfl, Nat.le_of_ble_eq_true rfl⟩) (ci := 7) (q0 := 0) rfl rfl rfl hP hD hS (sp_self (fun u => (w_7 cI ad u)) 9 (fun _ => rfl)) rfl hl.1 rfl (Nat.le_of_ble_eq_true rfl) dX7_send_196 ⟨Nat.zero_le _, Nat.zero_le _⟩ (fun H locs hP hD hS => ?_)
                                exact rt_i C hr hlk hP hD hS ((if_neg c_1).trans ((if_neg c_2).trans ((if_neg c_3).trans ((if_neg c_4).trans ((if_pos c_5).trans ((if_neg c_6).trans ((if_pos c_7).trans ((if_neg c_8).trans ((if_neg c_14).trans ((if_pos c_20).trans ((if_neg c_38).trans ((if_pos c_44).trans ((if_neg c_50).trans ((if_pos c_56).trans ((if_pos c_57).trans rfl))))))))))))))) dX7_send_199
                              · refine lv_aload_n hx hb dX7_send_184 rfl (lv_at hl 0 rfl) ?_
                                refine lv_iload_n hx hb dX7_send_185 rfl (lv_at hl 1 rfl) ?_
                                refine lv_iload_n hx hb dX7_send_186 rfl (lv_at hl 2 rfl) ?_
                                refine kv_i C (c_X7_streams l D cI cZ ad (ob_i (ob_i u 32 0) 22 ((u.1 22) ||| 8)) x1 x2 ) (cwV 2 C.2.2.2.2.1 gX7_send_X7_streams rfl rfl rfl hdX7_streams ⟨Nat.le_of_ble_eq_true rfl, Nat.le_of_ble_eq_true rfl⟩) (ci := 7) (q0 := 0) rfl rfl rfl hP hD hS (sp_self (fun u => (w_7 cI ad u)) 9 (fun _ => rfl)) rfl hl.1 rfl (Nat.le_of_ble_eq_true rfl) dX7_send_187 ⟨Nat.zero_le _, Nat.zero_le _⟩ (fun H locs hP hD hS => ?_)
                                refine lv_goto (tgt := 199) hx hb dX7_send_190 (by decide) ?_
                                exact rt_i C hr hlk hP hD hS ((if_neg c_1).trans ((if_neg c_2).trans ((if_neg c_3).trans ((if_neg c_4).trans ((if_pos c_5).trans ((if_neg c_6).trans ((if_pos c_7).trans ((if_neg c_8).trans ((if_neg c_14).trans ((if_pos c_20).trans ((if_neg c_38).trans ((if_pos c_44).trans ((if_neg c_50).trans ((if_pos c_56).trans ((if_neg c_57).trans rfl))))))))))))))) dX7_send_199
                            · refine lv_aload_n hx hb dX7_send_169 rfl (lv_at hl 0 rfl) ?_
                              refine lv_iload_n hx hb dX7_send_170 rfl (lv_at hl 1 rfl) ?_
                              refine lv_iload_n hx hb dX7_send_171 rfl (lv_at hl 2 rfl) ?_
                              refine kv_i C (c_X7_first l D cI cZ ad (ob_i (ob_i u 32 0) 22 ((u.1 22) ||| 8)) x1 x2 hA) (cwV 2 C.2.2.2.2.1 gX7_send_X7_first rfl rfl rfl hdX7_first ⟨Nat.le_of_ble_eq_true rfl, Nat.le_of_ble_eq_true rfl⟩) (ci := 7) (q0 := 0) rfl rfl rfl hP hD hS (sp_self (fun u => (w_7 cI ad u)) 9 (fun _ => rfl)) rfl hl.1 rfl (Nat.le_of_ble_eq_true rfl) dX7_send_172 ⟨Nat.zero_le _, Nat.zero_le _⟩ (fun H locs hP hD hS => ?_)
                              refine lv_goto (tgt := 199) hx hb dX7_send_175 (by decide) ?_
                              exact rt_i C hr hlk hP hD hS ((if_neg c_1).trans ((if_neg c_2).trans ((if_neg c_3).trans ((if_neg c_4).trans ((if_pos c_5).trans ((if_neg c_6).trans ((if_pos c_7).trans ((if_neg c_8).trans ((if_neg c_14).trans ((if_pos c_20).trans ((if_neg c_38).trans ((if_pos c_44).trans ((if_neg c_50).trans ((if_neg c_56).trans rfl)))))))))))))) dX7_send_199
              · refine lv_iload_n hx hb dX7_send_86 rfl (lv_at hl 1 rfl) ?_
                refine ks_p C (c_X7_isStarred l D cI cZ x1 ) (va_cwS 1 C.2.2.2.2.1 gX7_send_X7_isStarred rfl rfl rfl hdX7_isStarred ⟨Nat.le_of_ble_eq_true rfl, Nat.le_of_ble_eq_true rfl⟩) hP hD hS rfl hl.1 rfl (Nat.le_of_ble_eq_true rfl) dX7_send_87 ⟨Nat.zero_le _, Nat.zero_le _⟩ (fun H locs hP hS => ?_)
                refine lv_if_eq (tgt := 106) hx hb dX7_send_90 (by decide) (fun c_61 => ?_) (fun c_61 => ?_)
                · refine lv_aload_n hx hb dX7_send_106 rfl (lv_at hl 0 rfl) ?_
                  refine gt7_32 C hP in_X7_send_7 ln_X7_send_7 (v := (u.1 32)) rfl dX7_send_107 ?_
                  refine lv_if_le (tgt := 163) hx hb dX7_send_110 (by decide) (fun c_62 => ?_) (fun c_62 => ?_)
                  · refine lv_iload_n hx hb dX7_send_163 rfl (lv_at hl 1 rfl) ?_
                    refine lv_bipush (v := 16) hx hb dX7_send_164 (by decide) ?_
                    refine lv_icmp_ge (tgt := 178) hx hb dX7_send_166 (by decide) (fun c_63 => ?_) (fun c_63 => ?_)
                    · refine lv_iload_n hx hb dX7_send_178 rfl (lv_at hl 1 rfl) ?_
                      refine lv_bipush (v := 32) hx hb dX7_send_179 (by decide) ?_
                      refine lv_icmp_ge (tgt := 193) hx hb dX7_send_181 (by decide) (fun c_64 => ?_) (fun c_64 => ?_)
                      · refine lv_aload_n hx hb dX7_send_193 rfl (lv_at hl 0 rfl) ?_
                        refine lv_iload_n hx hb dX7_send_194 rfl (lv_at hl 1 rfl) ?_
                        refine lv_iload_n hx hb dX7_send_195 rfl (lv_at hl 2 rfl) ?_
                        refine kv_i C (c_X7_erases l D cI cZ ad u x1 x2 hA) (cwV 2 C.2.2.2.2.1 gX7_send_X7_erases rfl rfl rfl hdX7_erases ⟨Nat.le_of_ble_eq_true rfl, Nat.le_of_ble_eq_true rfl⟩) (ci := 7) (q0 := 0) rfl rfl rfl hP hD hS (sp_self (fun u => (w_7 cI ad u)) 9 (fun _ => rfl)) rfl hl.1 rfl (Nat.le_of_ble_eq_true rfl) dX7_send_196 ⟨Nat.zero_le _, Nat.zero_le _⟩ (fun H locs hP hD hS => ?_)
                        exact rt_i C hr hlk hP hD hS ((if_neg c_1).trans ((if_neg c_2).trans ((if_neg c_3).trans ((if_neg c_4).trans ((if_pos c_5).trans ((if_neg c_6).trans ((if_neg c_7).trans ((if_pos c_61).trans ((if_pos c_62).trans ((if_pos c_63).trans ((if_pos c_64).trans rfl))))))))))) dX7_send_199
                      · refine lv_aload_n hx hb dX7_send_184 rfl (lv_at hl 0 rfl) ?_
                        refine lv_iload_n hx hb dX7_send_185 rfl (lv_at hl 1 rfl) ?_
                        refine lv_iload_n hx hb dX7_send_186 rfl (lv_at hl 2 rfl) ?_
                        refine kv_i C (c_X7_streams l D cI cZ ad u x1 x2 ) (cwV 2 C.2.2.2.2.1 gX7_send_X7_streams rfl rfl rfl hdX7_streams ⟨Nat.le_of_ble_eq_true rfl, Nat.le_of_ble_eq_true rfl⟩) (ci := 7) (q0 := 0) rfl rfl rfl hP hD hS (sp_self (fun u => (w_7 cI ad u)) 9 (fun _ => rfl)) rfl hl.1 rfl (Nat.le_of_ble_eq_true rfl) dX7_send_187 ⟨Nat.zero_le _, Nat.zero_le _⟩ (fun H locs hP hD hS => ?_)
                        refine lv_goto (tgt := 199) hx hb dX7_send_190 (by decide) ?_
                        exact rt_i C hr hlk hP hD hS ((if_neg c_1).trans ((if_neg c_2).trans ((if_neg c_3).trans ((if_neg c_4).trans ((if_pos c_5).trans ((if_neg c_6).trans ((if_neg c_7).trans ((if_pos c_61).trans ((if_pos c_62).trans ((if_pos c_63).trans ((if_neg c_64).trans rfl))))))))))) dX7_send_199
                    · refine lv_aload_n hx hb dX7_send_169 rfl (lv_at hl 0 rfl) ?_
                      refine lv_iload_n hx hb dX7_send_170 rfl (lv_at hl 1 rfl) ?_
                      refine lv_iload_n hx hb dX7_send_171 rfl (lv_at hl 2 rfl) ?_
                      refine kv_i C (c_X7_first l D cI cZ ad u x1 x2 hA) (cwV 2 C.2.2.2.2.1 gX7_send_X7_first rfl rfl rfl hdX7_first ⟨Nat.le_of_ble_eq_true rfl, Nat.le_of_ble_eq_true rfl⟩) (ci := 7) (q0 := 0) rfl rfl rfl hP hD hS (sp_self (fun u => (w_7 cI ad u)) 9 (fun _ => rfl)) rfl hl.1 rfl (Nat.le_of_ble_eq_true rfl) dX7_send_172 ⟨Nat.zero_le _, Nat.zero_le _⟩ (fun H locs hP hD hS => ?_)
                      refine lv_goto (tgt := 199) hx hb dX7_send_175 (by decide) ?_
                      exact rt_i C hr hlk hP hD hS ((if_neg c_1).trans ((if_neg c_2).trans ((if_neg c_3).trans ((if_neg c_4).trans ((if_pos c_5).trans ((if_neg c_6).trans ((if_neg c_7).trans ((if_pos c_61).trans ((if_pos c_62).trans ((if_neg c_63).trans rfl)))))))))) dX7_send_199
                  · refine lv_iload_n hx hb dX7_send_113 rfl (lv_at hl 1 rfl) ?_
                    refine lv_bipush (v := 13) hx hb dX7_send_114 (by decide) ?_
                    refine lv_icmp_eq (tgt := 163) hx hb dX7_send_116 (by decide) (fun c_68 => ?_) (fun c_68 => ?_)
                    · refine lv_iload_n hx hb dX7_send_163 rfl (lv_at hl 1 rfl) ?_
                      refine lv_bipush (v := 16) hx hb dX7_send_164 (by decide) ?_
                      refine lv_icmp_ge (tgt := 178) hx hb dX7_send_166 (by decide) (fun c_69 => ?_) (fun c_69 => ?_)
                      · refine lv_iload_n hx hb dX7_send_178 rfl (lv_at hl 1 rfl) ?_
                        refine lv_bipush (v := 32) hx hb dX7_send_179 (by decide) ?_
                        refine lv_icmp_ge (tgt := 193) hx hb dX7_send_181 (by decide) (fun c_70 => ?_) (fun c_70 => ?_)
                        · refine lv_aload_n hx hb dX7_send_193 rfl (lv_at hl 0 rfl) ?_
                          refine lv_iload_n hx hb dX7_send_194 rfl (lv_at hl 1 rfl) ?_
                          refine lv_iload_n hx hb dX7_send_195 rfl (lv_at hl 2 rfl) ?_
                          refine kv_i C (c_X7_erases l D cI cZ ad u x1 x2 hA) (cwV 2 C.2.2.2.2.1 gX7_send_X7_erases rfl rfl rfl hdX7_erases ⟨Nat.le_of_ble_eq_true rfl, Nat.le_of_ble_eq_true rfl⟩) (ci := 7) (q0 := 0) rfl rfl rfl hP hD hS (sp_self (fun u => (w_7 cI ad u)) 9 (fun _ => rfl)) rfl hl.1 rfl (Nat.le_of_ble_eq_true rfl) dX7_send_196 ⟨Nat.zero_le _, Nat.zero_le _⟩ (fun H locs hP hD hS => ?_)
                          exact rt_i C hr hlk hP hD hS ((if_neg c_1).trans ((if_neg c_2).trans ((if_neg c_3).trans ((if_neg c_4).trans ((if_pos c_5).trans ((if_neg c_6).trans ((if_neg c_7).trans ((if_pos c_61).trans ((if_neg c_62).trans ((if_pos c_68).trans ((if_pos c_69).trans ((if_pos c_70).trans rfl)))))))))))) dX7_send_199
                        · refine lv_aload_n hx hb dX7_send_184 rfl (lv_at hl 0 rfl) ?_
                          refine lv_iload_n hx hb dX7_send_185 rfl (lv_at hl 1 rfl) ?_
                          refine lv_iload_n hx hb dX7_send_186 rfl (lv_at hl 2 rfl) ?_
                          refine kv_i C (c_X7_streams l D cI cZ ad u x1 x2 ) (cwV 2 C.2.2.2.2.1 gX7_send_X7_streams rfl rfl rfl hdX7_streams ⟨Nat.le_of_ble_eq_true rfl, Nat.le_of_ble_eq_true rfl⟩) (ci := 7) (q0 := 0) rfl rfl rfl hP hD hS (sp_self (fun u => (w_7 cI ad u)) 9 (fun _ => rfl)) rfl hl.1 rfl (Nat.le_of_ble_eq_true rfl) dX7_send_187 ⟨Nat.zero_le _, Nat.zero_le _⟩ (fun H locs hP hD hS => ?_)
                          refine lv_goto (tgt := 199) hx hb dX7_send_190 (by decide) ?_
                          exact rt_i C hr hlk hP hD hS ((if_neg c_1).trans ((if_neg c_2).trans ((if_neg c_3).trans ((if_neg c_4).trans ((if_pos c_5).trans ((if_neg c_6).trans ((if_neg c_7).trans ((if_pos c_61).trans ((if_neg c_62).trans ((if_pos c_68).trans ((if_pos c_69).trans ((if_neg c_70).trans rfl)))))))))))) dX7_send_199
                      · refine lv_aload_n hx hb dX7_send_169 rfl (lv_at hl 0 rfl) ?_
                        refine lv_iload_n hx hb dX7_send_170 rfl (lv_at hl 1 rfl) ?_
                        refine lv_iload_n hx hb dX7_send_171 rfl (lv_at hl 2 rfl) ?_
                        refine kv_i C (c_X7_first l D cI cZ ad u x1 x2 hA) (cwV 2 C.2.2.2.2.1 gX7_send_X7_first rfl rfl rfl hdX7_first ⟨Nat.le_of_ble_eq_true rfl, Nat.le_of_ble_eq_true rfl⟩) (ci := 7) (q0 := 0) rfl rfl rfl hP hD hS (sp_self (fun u => (w_7 cI ad u)) 9 (fun _ => rfl)) rfl hl.1 rfl (Nat.le_of_ble_eq_true rfl) dX7_send_172 ⟨Nat.zero_le _, Nat.zero_le _⟩ (fun H locs hP hD hS => ?_)
                        refine lv_goto (tgt := 199) hx hb dX7_send_175 (by decide) ?_
                        exact rt_i C hr hlk hP hD hS ((if_neg c_1).trans ((if_neg c_2).trans ((if_neg c_3).trans ((if_neg c_4).trans ((if_pos c_5).trans ((if_neg c_6).trans ((if_neg c_7).trans ((if_pos c_61).trans ((if_neg c_62).trans ((if_pos c_68).trans ((if_neg c_69).trans rfl))))))))))) dX7_send_199
                    · refine lv_iload_n hx hb dX7_send_119 rfl (lv_at hl 1 rfl) ?_
                      refine lv_bipush (v := 33) hx hb dX7_send_120 (by decide) ?_
                      refine lv_icmp_ne (tgt := 133) hx hb dX7_send_122 (by decide) (fun c_74 => ?_) (fun c_74 => ?_)
                      · refine lv_iload_n hx hb dX7_send_133 rfl (lv_at hl 1 rfl) ?_
                        refine lv_bipush (v := 38) hx hb dX7_send_134 (by decide) ?_
                        refine lv_icmp_ne (tgt := 147) hx hb dX7_send_136 (by decide) (fun c_75 => ?_) (fun c_75 => ?_)
                        · refine lv_aload_n hx hb dX7_send_147 rfl (lv_at hl 0 rfl) ?_
                          refine lv_iconst (v := 0) hx hb dX7_send_148 (by decide) ?_
                          refine pt7_32 C hP hD hS in_X7_send_7 ln_X7_send_7 dX7_send_149 (fun H locs hP hD hS => ?_)
                          refine lv_aload_n hx hb dX7_send_152 rfl (lv_at hl 0 rfl) ?_
                          refine lv_dup hx hb dX7_send_153 rfl ?_
                          refine gt7_22 C hP in_X7_send_7 ln_X7_send_5 (v := (u.1 22)) rfl dX7_send_154 ?_
                          refine lv_bipush (v := 8) hx hb dX7_send_157 (by decide) ?_
                          refine lv_ior hx hb dX7_send_159 ?_
                          refine pt7_22 C hP hD hS in_X7_send_7 ln_X7_send_5 dX7_send_160 (fun H locs hP hD hS => ?_)
                          refine lv_iload_n hx hb dX7_send_163 rfl (lv_at hl 1 rfl) ?_
                          refine lv_bipush (v := 16) hx hb dX7_send_164 (by decide) ?_
                          refine lv_icmp_ge (tgt := 178) hx hb dX7_send_166 (by decide) (fun c_76 => ?_) (fun c_76 => ?_)
                          · refine lv_iload_n hx hb dX7_send_178 rfl (lv_at hl 1 rfl) ?_
                            refine lv_bipush (v := 32) hx hb dX7_send_179 (by decide) ?_
                            refine lv_icmp_ge (tgt := 193) hx hb dX7_send_181 (by decide) (fun c_77 => ?_) (fun c_77 => ?_)
                            · refine lv_aload_n hx hb dX7_send_193 rfl (lv_at hl 0 rfl) ?_
                              refine lv_iload_n hx hb dX7_send_194 rfl (lv_at hl 1 rfl) ?_
                              refine lv_iload_n hx hb dX7_send_195 rfl (lv_at hl 2 rfl) ?_
                              refine kv_i C (c_X7_erases l D cI cZ ad (ob_i (ob_i u 32 0) 22 ((u.1 22) ||| 8)) x1 x2 hA) (cwV 2 C.2.2.2.2.1 gX7_send_X7_erases rfl rfl rfl hdX7_erases ⟨Nat.le_of_ble_eq_true rfl, Nat.le_of_ble_eq_true rfl⟩) (ci := 7) (q0 := 0) rfl rfl rfl hP hD hS (sp_self (fun u => (w_7 cI ad u)) 9 (fun _ => rfl)) rfl hl.1 rfl (Nat.le_of_ble_eq_true rfl) dX7_send_196 ⟨Nat.zero_le _, Nat.zero_le _⟩ (fun H locs hP hD hS => ?_)
                              exact rt_i C hr hlk hP hD hS ((if_neg c_1).trans ((if_neg c_2).trans ((if_neg c_3).trans ((if_neg c_4).trans ((if_pos c_5).trans ((if_neg c_6).trans ((if_neg c_7).trans ((if_pos c_61).trans ((if_neg c_62).trans ((if_neg c_68).trans ((if_neg c_74).trans ((if_neg c_75).trans ((if_pos c_76).trans ((if_pos c_77).trans rfl)))))))))))))) dX7_send_199
                            · refine lv_aload_n hx hb dX7_send_184 rfl (lv_at hl 0 rfl) ?_
                              refine lv_iload_n hx hb dX7_send_185 rfl (lv_at hl 1 rfl) ?_
                              refine lv_iload_n hx hb dX7_send_186 rfl (lv_at hl 2 rfl) ?_
                              refine kv_i C (c_X7_streams l D cI cZ ad (ob_i (ob_i u 32 0) 22 ((u.1 22) ||| 8)) x1 x2 ) (cwV 2 C.2.2.2.2.1 gX7_send_X7_streams rfl rfl rfl hdX7_streams ⟨Nat.le_of_ble_eq_true rfl, Nat.le_of_ble_eq_true rfl⟩) (ci := 7) (q0 := 0) rfl rfl rfl hP hD hS (sp_self (fun u => (w_7 cI ad u)) 9 (fun _ => rfl)) rfl hl.1 rfl (Nat.le_of_ble_eq_true rfl) dX7_send_187 ⟨Nat.zero_le _, Nat.zero_le _⟩ (fun H locs hP hD hS => ?_)
                              refine lv_goto (tgt := 199) hx hb dX7_send_190 (by decide) ?_
                              exact rt_i C hr hlk hP hD hS ((if_neg c_1).trans ((if_neg c_2).trans ((if_neg c_3).trans ((if_neg c_4).trans ((if_pos c_5).trans ((if_neg c_6).trans ((if_neg c_7).trans ((if_pos c_61).trans ((if_neg c_62).trans ((if_neg c_68).trans ((if_neg c_74).trans ((if_neg c_75).trans ((if_pos c_76).trans ((if_neg c_77).trans rfl)))))))))))))) dX7_send_199
                          · refine lv_aload_n hx hb dX7_send_169 rfl (lv_at hl 0 rfl) ?_
                            refine lv_iload_n hx hb dX7_send_170 rfl (lv_at hl 1 rfl) ?_
                            refine lv_iload_n hx hb dX7_send_171 rfl (lv_at hl 2 rfl) ?_
                            refine kv_i C (c_X7_first l D cI cZ ad (ob_i (ob_i u 32 0) 22 ((u.1 22) ||| 8)) x1 x2 hA) (cwV 2 C.2.2.2.2.1 gX7_send_X7_first rfl rfl rfl hdX7_first ⟨Nat.le_of_ble_eq_true rfl, Nat.le_of_ble_eq_true rfl⟩) (ci := 7) (q0 := 0) rfl rfl rfl hP hD hS (sp_self (fun u => (w_7 cI ad u)) 9 (fun _ => rfl)) rfl hl.1 rfl (Nat.le_of_ble_eq_true rfl) dX7_send_172 ⟨Nat.zero_le _, Nat.zero_le _⟩ (fun H locs hP hD hS => ?_)
                            refine lv_goto (tgt := 199) hx hb dX7_send_175 (by decide) ?_
                            exact rt_i C hr hlk hP hD hS ((if_neg c_1).trans ((if_neg c_2).trans ((if_neg c_3).trans ((if_neg c_4).trans ((if_pos c_5).trans ((if_neg c_6).trans ((if_neg c_7).trans ((if_pos c_61).trans ((if_neg c_62).trans ((if_neg c_68).trans ((if_neg c_74).trans ((if_neg c_75).trans ((if_neg c_76).trans rfl))))))))))))) dX7_send_199
                        · refine lv_aload_n hx hb dX7_send_139 rfl (lv_at hl 0 rfl) ?_
                          refine gt7_32 C hP in_X7_send_7 ln_X7_send_7 (v := (u.1 32)) rfl dX7_send_140 ?_
                          refine lv_iconst (v := 2) hx hb dX7_send_143 (by decide) ?_
                          refine lv_icmp_eq (tgt := 163) hx hb dX7_send_144 (by decide) (fun c_81 => ?_) (fun c_81 => ?_)
                          · refine lv_iload_n hx hb dX7_send_163 rfl (lv_at hl 1 rfl) ?_
                            refine lv_bipush (v := 16) hx hb dX7_send_164 (by decide) ?_
                            refine lv_icmp_ge (tgt := 178) hx hb dX7_send_166 (by decide) (fun c_82 => ?_) (fun c_82 => ?_)
                            · refine lv_iload_n hx hb dX7_send_178 rfl (lv_at hl 1 rfl) ?_
                              refine lv_bipush (v := 32) hx hb dX7_send_179 (by decide) ?_
                              refine lv_icmp_ge (tgt := 193) hx hb dX7_send_181 (by decide) (fun c_83 => ?_) (fun c_83 => ?_)
                              · refine lv_aload_n hx hb dX7_send_193 rfl (lv_at hl 0 rfl) ?_
                                refine lv_iload_n hx hb dX7_send_194 rfl (lv_at hl 1 rfl) ?_
                                refine lv_iload_n hx hb dX7_send_195 rfl (lv_at hl 2 rfl) ?_
                                refine kv_i C (c_X7_erases l D cI cZ ad u x1 x2 hA) (cwV 2 C.2.2.2.2.1 gX7_send_X7_erases rfl rfl rfl hdX7_erases ⟨Nat.le_of_ble_eq_true rfl, Nat.le_of_ble_eq_true rfl⟩) (ci := 7) (q0 := 0) rfl rfl rfl hP hD hS (sp_self (fun u => (w_7 cI ad u)) 9 (fun _ => rfl)) rfl hl.1 rfl (Nat.le_of_ble_eq_true rfl) dX7_send_196 ⟨Nat.zero_le _, Nat.zero_le _⟩ (fun H locs hP hD hS => ?_)
                                exact rt_i C hr hlk hP hD hS ((if_neg c_1).trans ((if_neg c_2).trans ((if_neg c_3).trans ((if_neg c_4).trans ((if_pos c_5).trans ((if_neg c_6).trans ((if_neg c_7).trans ((if_pos c_61).trans ((if_neg c_62).trans ((if_neg c_68).trans ((if_neg c_74).trans ((if_pos c_75).trans ((if_pos c_81).trans ((if_pos c_82).trans ((if_pos c_83).trans rfl))))))))))))))) dX7_send_199
                              · refine lv_aload_n hx hb dX7_send_184 rfl (lv_at hl 0 rfl) ?_
                                refine lv_iload_n hx hb dX7_send_185 rfl (lv_at hl 1 rfl) ?_
                                refine lv_iload_n hx hb dX7_send_186 rfl (lv_at hl 2 rfl) ?_
                                refine kv_i C (c_X7_streams l D cI cZ ad u x1 x2 ) (cwV 2 C.2.2.2.2.1 gX7_send_X7_streams rfl rfl rfl hdX7_streams ⟨Nat.le_of_ble_eq_true rfl, Nat.le_of_ble_eq_true rfl⟩) (ci := 7) (q0 := 0) rfl rfl rfl hP hD hS (sp_self (fun u => (w_7 cI ad u)) 9 (fun _ => rfl)) rfl hl.1 rfl (Nat.le_of_ble_eq_true rfl) dX7_send_187 ⟨Nat.zero_le _, Nat.zero_le _⟩ (fun H locs hP hD hS => ?_)
                                refine lv_goto (tgt := 199) hx hb dX7_send_190 (by decide) ?_
                                exact rt_i C hr hlk hP hD hS ((if_neg c_1).trans ((if_neg c_2).trans ((if_neg c_3).trans ((if_neg c_4).trans ((if_pos c_5).trans ((if_neg c_6).trans ((if_neg c_7).trans ((if_pos c_61).trans ((if_neg c_62).trans ((if_neg c_68).trans ((if_neg c_74).trans ((if_pos c_75).trans ((if_pos c_81).trans ((if_pos c_82).trans ((if_neg c_83).trans rfl))))))))))))))) dX7_send_199
                            · refine lv_aload_n hx hb dX7_send_169 rfl (lv_at hl 0 rfl) ?_
                              refine lv_iload_n hx hb dX7_send_170 rfl (lv_at hl 1 rfl) ?_
                              refine lv_iload_n hx hb dX7_send_171 rfl (lv_at hl 2 rfl) ?_
                              refine kv_i C (c_X7_first l D cI cZ ad u x1 x2 hA) (cwV 2 C.2.2.2.2.1 gX7_send_X7_first rfl rfl rfl hdX7_first ⟨Nat.le_of_ble_eq_true rfl, Nat.le_of_ble_eq_true rfl⟩) (ci := 7) (q0 := 0) rfl rfl rfl hP hD hS (sp_self (fun u => (w_7 cI ad u)) 9 (fun _ => rfl)) rfl hl.1 rfl (Nat.le_of_ble_eq_true rfl) dX7_send_172 ⟨Nat.zero_le _, Nat.zero_le _⟩ (fun H locs hP hD hS => ?_)
                              refine lv_goto (tgt := 199) hx hb dX7_send_175 (by decide) ?_
                              exact rt_i C hr hlk hP hD hS ((if_neg c_1).trans ((if_neg c_2).trans ((if_neg c_3).trans ((if_neg c_4).trans ((if_pos c_5).trans ((if_neg c_6).trans ((if_neg c_7).trans ((if_pos c_61).trans ((if_neg c_62).trans ((if_neg c_68).trans ((if_neg c_74).trans ((if_pos c_75).trans ((if_pos c_81).trans ((if_neg c_82).trans rfl)))))))))))))) dX7_send_199
                          · refine lv_aload_n hx hb dX7_send_147 rfl (lv_at hl 0 rfl) ?_
                            refine lv_iconst (v := 0) hx hb dX7_send_148 (by decide) ?_
                            refine pt7_32 C hP hD hS in_X7_send_7 ln_X7_send_7 dX7_send_149 (fun H locs hP hD hS => ?_)
                            refine lv_aload_n hx hb dX7_send_152 rfl (lv_at hl 0 rfl) ?_
                            refine lv_dup hx hb dX7_send_153 rfl ?_
                            refine gt7_22 C hP in_X7_send_7 ln_X7_send_5 (v := (u.1 22)) rfl dX7_send_154 ?_
                            refine lv_bipush (v := 8) hx hb dX7_send_157 (by decide) ?_
                            refine lv_ior hx hb dX7_send_159 ?_
                            refine pt7_22 C hP hD hS in_X7_send_7 ln_X7_send_5 dX7_send_160 (fun H locs hP hD hS => ?_)
                            refine lv_iload_n hx hb dX7_send_163 rfl (lv_at hl 1 rfl) ?_
                            refine lv_bipush (v := 16) hx hb dX7_send_164 (by decide) ?_
                            refine lv_icmp_ge (tgt := 178) hx hb dX7_send_166 (by decide) (fun c_87 => ?_) (fun c_87 => ?_)
                            · refine lv_iload_n hx hb dX7_send_178 rfl (lv_at hl 1 rfl) ?_
                              refine lv_bipush (v := 32) hx hb dX7_send_179 (by decide) ?_
                              refine lv_icmp_ge (tgt := 193) hx hb dX7_send_181 (by decide) (fun c_88 => ?_) (fun c_88 => ?_)
                              · refine lv_aload_n hx hb dX7_send_193 rfl (lv_at hl 0 rfl) ?_
                                refine lv_iload_n hx hb dX7_send_194 rfl (lv_at hl 1 rfl) ?_
                                refine lv_iload_n hx hb dX7_send_195 rfl (lv_at hl 2 rfl) ?_
                                refine kv_i C (c_X7_erases l D cI cZ ad (ob_i (ob_i u 32 0) 22 ((u.1 22) ||| 8)) x1 x2 hA) (cwV 2 C.2.2.2.2.1 gX7_send_X7_erases rfl rfl rfl hdX7_erases ⟨Nat.le_of_ble_eq_true rfl, Nat.le_of_ble_eq_true rfl⟩) (ci := 7) (q0 := 0) rfl rfl rfl hP hD hS (sp_self (fun u => (w_7 cI ad u)) 9 (fun _ => rfl)) rfl hl.1 rfl (Nat.le_of_ble_eq_true rfl) dX7_send_196 ⟨Nat.zero_le _, Nat.zero_le _⟩ (fun H locs hP hD hS => ?_)
                                exact rt_i C hr hlk hP hD hS ((if_neg c_1).trans ((if_neg c_2).trans ((if_neg c_3).trans ((if_neg c_4).trans ((if_pos c_5).trans ((if_neg c_6).trans ((if_neg c_7).trans ((if_pos c_61).trans ((if_neg c_62).trans ((if_neg c_68).trans ((if_neg c_74).trans ((if_pos c_75).trans ((if_neg c_81).trans ((if_pos c_87).trans ((if_pos c_88).trans rfl))))))))))))))) dX7_send_199
                              · refine lv_aload_n hx hb dX7_send_184 rfl (lv_at hl 0 rfl) ?_
                                refine lv_iload_n hx hb dX7_send_185 rfl (lv_at hl 1 rfl) ?_
                                refine lv_iload_n hx hb dX7_send_186 rfl (lv_at hl 2 rfl) ?_
                                refine kv_i C (c_X7_streams l D cI cZ ad (ob_i (ob_i u 32 0) 22 ((u.1 22) ||| 8)) x1 x2 ) (cwV 2 C.2.2.2.2.1 gX7_send_X7_streams rfl rfl rfl hdX7_streams ⟨Nat.le_of_ble_eq_true rfl, Nat.le_of_ble_eq_true rfl⟩) (ci := 7) (q0 := 0) rfl rfl rfl hP hD hS (sp_self (fun u => (w_7 cI ad u)) 9 (fun _ => rfl)) rfl hl.1 rfl (Nat.le_of_ble_eq_true rfl) dX7_send_187 ⟨Nat.zero_le _, Nat.zero_le _⟩ (fun H locs hP hD hS => ?_)
                                refine lv_goto (tgt := 199) hx hb dX7_send_190 (by decide) ?_
                                exact rt_i C hr hlk hP hD hS ((if_neg c_1).trans ((if_neg c_2).trans ((if_neg c_3).trans ((if_neg c_4).trans ((if_pos c_5).trans ((if_neg c_6).trans ((if_neg c_7).trans ((if_pos c_61).trans ((if_neg c_62).trans ((if_neg c_68).trans ((if_neg c_74).trans ((if_pos c_75).trans ((if_neg c_81).trans ((if_pos c_87).trans ((if_neg c_88).trans rfl))))))))))))))) dX7_send_199
                            · refine lv_aload_n hx hb dX7_send_169 rfl (lv_at hl 0 rfl) ?_
                              refine lv_iload_n hx hb dX7_send_170 rfl (lv_at hl 1 rfl) ?_
                              refine lv_iload_n hx hb dX7_send_171 rfl (lv_at hl 2 rfl) ?_
                              refine kv_i C (c_X7_first l D cI cZ ad (ob_i (ob_i u 32 0) 22 ((u.1 22) ||| 8)) x1 x2 hA) (cwV 2 C.2.2.2.2.1 gX7_send_X7_first rfl rfl rfl hdX7_first ⟨Nat.le_of_ble_eq_true rfl, Nat.le_of_ble_eq_true rfl⟩) (ci := 7) (q0 := 0) rfl rfl rfl hP hD hS (sp_self (fun u => (w_7 cI ad u)) 9 (fun _ => rfl)) rfl hl.1 rfl (Nat.le_of_ble_eq_true rfl) dX7_send_172 ⟨Nat.zero_le _, Nat.zero_le _⟩ (fun H locs hP hD hS => ?_)
                              refine lv_goto (tgt := 199) hx hb dX7_send_175 (by decide) ?_
                              exact rt_i C hr hlk hP hD hS ((if_neg c_1).trans ((if_neg c_2).trans ((if_neg c_3).trans ((if_neg c_4).trans ((if_pos c_5).trans ((if_neg c_6).trans ((if_neg c_7).trans ((if_pos c_61).trans ((if_neg c_62).trans ((if_neg c_68).trans ((if_neg c_74).trans ((if_pos c_75).trans ((if_neg c_81).trans ((if_neg c_87).trans rfl)))))))))))))) dX7_send_199
                      · refine lv_aload_n hx hb dX7_send_125 rfl (lv_at hl 0 rfl) ?_
                        refine gt7_32 C hP in_X7_send_7 ln_X7_send_7 (v := (u.1 32)) rfl dX7_send_126 ?_
                        refine lv_iconst (v := 1) hx hb dX7_send_129 (by decide) ?_
                        refine lv_icmp_eq (tgt := 163) hx hb dX7_send_130 (by decide) (fun c_92 => ?_) (fun c_92 => ?_)
                        · refine lv_iload_n hx hb dX7_send_163 rfl (lv_at hl 1 rfl) ?_
                          refine lv_bipush (v := 16) hx hb dX7_send_164 (by decide) ?_
                          refine lv_icmp_ge (tgt := 178) hx hb dX7_send_166 (by decide) (fun c_93 => ?_) (fun c_93 => ?_)
                          · refine lv_iload_n hx hb dX7_send_178 rfl (lv_at hl 1 rfl) ?_
                            refine lv_bipush (v := 32) hx hb dX7_send_179 (by decide) ?_
                            refine lv_icmp_ge (tgt := 193) hx hb dX7_send_181 (by decide) (fun c_94 => ?_) (fun c_94 => ?_)
                            · refine lv_aload_n hx hb dX7_send_193 rfl (lv_at hl 0 rfl) ?_
                              refine lv_iload_n hx hb dX7_send_194 rfl (lv_at hl 1 rfl) ?_
                              refine lv_iload_n hx hb dX7_send_195 rfl (lv_at hl 2 rfl) ?_
                              refine kv_i C (c_X7_erases l D cI cZ ad u x1 x2 hA) (cwV 2 C.2.2.2.2.1 gX7_send_X7_erases rfl rfl rfl hdX7_erases ⟨Nat.le_of_ble_eq_true rfl, Nat.le_of_ble_eq_true rfl⟩) (ci := 7) (q0 := 0) rfl rfl rfl hP hD hS (sp_self (fun u => (w_7 cI ad u)) 9 (fun _ => rfl)) rfl hl.1 rfl (Nat.le_of_ble_eq_true rfl) dX7_send_196 ⟨Nat.zero_le _, Nat.zero_le _⟩ (fun H locs hP hD hS => ?_)
                              exact rt_i C hr hlk hP hD hS ((if_neg c_1).trans ((if_neg c_2).trans ((if_neg c_3).trans ((if_neg c_4).trans ((if_pos c_5).trans ((if_neg c_6).trans ((if_neg c_7).trans ((if_pos c_61).trans ((if_neg c_62).trans ((if_neg c_68).trans ((if_pos c_74).trans ((if_pos c_92).trans ((if_pos c_93).trans ((if_pos c_94).trans rfl)))))))))))))) dX7_send_199
                            · refine lv_aload_n hx hb dX7_send_184 rfl (lv_at hl 0 rfl) ?_
                              refine lv_iload_n hx hb dX7_send_185 rfl (lv_at hl 1 rfl) ?_
                              refine lv_iload_n hx hb dX7_send_186 rfl (lv_at hl 2 rfl) ?_
                              refine kv_i C (c_X7_streams l D cI cZ ad u x1 x2 ) (cwV 2 C.2.2.2.2.1 gX7_send_X7_streams rfl rfl rfl hdX7_streams ⟨Nat.le_of_ble_eq_true rfl, Nat.le_of_ble_eq_true rfl⟩) (ci := 7) (q0 := 0) rfl rfl rfl hP hD hS (sp_self (fun u => (w_7 cI ad u)) 9 (fun _ => rfl)) rfl hl.1 rfl (Nat.le_of_ble_eq_true rfl) dX7_send_187 ⟨Nat.zero_le _, Nat.zero_le _⟩ (fun H locs hP hD hS => ?_)
                              refine lv_goto (tgt := 199) hx hb dX7_send_190 (by decide) ?_
                              exact rt_i C hr hlk hP hD hS ((if_neg c_1).trans ((if_neg c_2).trans ((if_neg c_3).trans ((if_neg c_4).trans ((if_pos c_5).trans ((if_neg c_6).trans ((if_neg c_7).trans ((if_pos c_61).trans ((if_neg c_62).trans ((if_neg c_68).trans ((if_pos c_74).trans ((if_pos c_92).trans ((if_pos c_93).trans ((if_neg c_94).trans rfl)))))))))))))) dX7_send_199
                          · refine lv_aload_n hx hb dX7_send_169 rfl (lv_at hl 0 rfl) ?_
                            refine lv_iload_n hx hb dX7_send_170 rfl (lv_at hl 1 rfl) ?_
                            refine lv_iload_n hx hb dX7_send_171 rfl (lv_at hl 2 rfl) ?_
                            refine kv_i C (c_X7_first l D cI cZ ad u x1 x2 hA) (cwV 2 C.2.2.2.2.1 gX7_send_X7_first rfl rfl rfl hdX7_first ⟨Nat.le_of_ble_eq_true rfl, Nat.le_of_ble_eq_true rfl⟩) (ci := 7) (q0 := 0) rfl rfl rfl hP hD hS (sp_self (fun u => (w_7 cI ad u)) 9 (fun _ => rfl)) rfl hl.1 rfl (Nat.le_of_ble_eq_true rfl) dX7_send_172 ⟨Nat.zero_le _, Nat.zero_le _⟩ (fun H locs hP hD hS => ?_)
                            refine lv_goto (tgt := 199) hx hb dX7_send_175 (by decide) ?_
                            exact rt_i C hr hlk hP hD hS ((if_neg c_1).trans ((if_neg c_2).trans ((if_neg c_3).trans ((if_neg c_4).trans ((if_pos c_5).trans ((if_neg c_6).trans ((if_neg c_7).trans ((if_pos c_61).trans ((if_neg c_62).trans ((if_neg c_68).trans ((if_pos c_74).trans ((if_pos c_92).trans ((if_neg c_93).trans rfl))))))))))))) dX7_send_199
                        · refine lv_iload_n hx hb dX7_send_133 rfl (lv_at hl 1 rfl) ?_
                          refine lv_bipush (v := 38) hx hb dX7_send_134 (by decide) ?_
                          refine lv_icmp_ne (tgt := 147) hx hb dX7_send_136 (by decide) (fun c_98 => ?_) (fun c_98 => ?_)
                          · refine lv_aload_n hx hb dX7_send_147 rfl (lv_at hl 0 rfl) ?_
                            refine lv_iconst (v := 0) hx hb dX7_send_148 (by decide) ?_
                            refine pt7_32 C hP hD hS in_X7_send_7 ln_X7_send_7 dX7_send_149 (fun H locs hP hD hS => ?_)
                            refine lv_aload_n hx hb dX7_send_152 rfl (lv_at hl 0 rfl) ?_
                            refine lv_dup hx hb dX7_send_153 rfl ?_
                            refine gt7_22 C hP in_X7_send_7 ln_X7_send_5 (v := (u.1 22)) rfl dX7_send_154 ?_
                            refine lv_bipush (v := 8) hx hb dX7_send_157 (by decide) ?_
                            refine lv_ior hx hb dX7_send_159 ?_
                            refine pt7_22 C hP hD hS in_X7_send_7 ln_X7_send_5 dX7_send_160 (fun H locs hP hD hS => ?_)
                            refine lv_iload_n hx hb dX7_send_163 rfl (lv_at hl 1 rfl) ?_
                            refine lv_bipush (v := 16) hx hb dX7_send_164 (by decide) ?_
                            refine lv_icmp_ge (tgt := 178) hx hb dX7_send_166 (by decide) (fun c_99 => ?_) (fun c_99 => ?_)
                            · refine lv_iload_n hx hb dX7_send_178 rfl (lv_at hl 1 rfl) ?_
                              refine lv_bipush (v := 32) hx hb dX7_send_179 (by decide) ?_
                              refine lv_icmp_ge (tgt := 193) hx hb dX7_send_181 (by decide) (fun c_100 => ?_) (fun c_100 => ?_)
                              · refine lv_aload_n hx hb dX7_send_193 rfl (lv_at hl 0 rfl) ?_
                                refine lv_iload_n hx hb dX7_send_194 rfl (lv_at hl 1 rfl) ?_
                                refine lv_iload_n hx hb dX7_send_195 rfl (lv_at hl 2 rfl) ?_
                                refine kv_i C (c_X7_erases l D cI cZ ad (ob_i (ob_i u 32 0) 22 ((u.1 22) ||| 8)) x1 x2 hA) (cwV 2 C.2.2.2.2.1 gX7_send_X7_erases rfl rfl rfl hdX7_erases ⟨Nat.le_of_ble_eq_true rfl, Nat.le_of_ble_eq_true rfl⟩) (ci := 7) (q0 := 0) rfl rfl rfl hP hD hS (sp_self (fun u => (w_7 cI ad u)) 9 (fun _ => rfl)) rfl hl.1 rfl (Nat.le_of_ble_eq_true rfl) dX7_send_196 ⟨Nat.zero_le _, Nat.zero_le _⟩ (fun H locs hP hD hS => ?_)
                                exact rt_i C hr hlk hP hD hS ((if_neg c_1).trans ((if_neg c_2).trans ((if_neg c_3).trans ((if_neg c_4).trans ((if_pos c_5).trans ((if_neg c_6).trans ((if_neg c_7).trans ((if_pos c_61).trans ((if_neg c_62).trans ((if_neg c_68).trans ((if_pos c_74).trans ((if_neg c_92).trans ((if_neg c_98).trans ((if_pos c_99).trans ((if_pos c_100).trans rfl))))))))))))))) dX7_send_199
                              · refine lv_aload_n hx hb dX7_send_184 rfl (lv_at hl 0 rfl) ?_
                                refine lv_iload_n hx hb dX7_send_185 rfl (lv_at hl 1 rfl) ?_
                                refine lv_iload_n hx hb dX7_send_186 rfl (lv_at hl 2 rfl) ?_
                                refine kv_i C (c_X7_streams l D cI cZ ad (ob_i (ob_i u 32 0) 22 ((u.1 22) ||| 8)) x1 x2 ) (cwV 2 C.2.2.2.2.1 gX7_send_X7_streams rfl rfl rfl hdX7_streams ⟨Nat.le_of_ble_eq_true rfl, Nat.le_of_ble_eq_true rfl⟩) (ci := 7) (q0 := 0) rfl rfl rfl hP hD hS (sp_self (fun u => (w_7 cI ad u)) 9 (fun _ => rfl)) rfl hl.1 rfl (Nat.le_of_ble_eq_true rfl) dX7_send_187 ⟨Nat.zero_le _, Nat.zero_le _⟩ (fun H locs hP hD hS => ?_)
                                refine lv_goto (tgt := 199) hx hb dX7_send_190 (by decide) ?_
                                exact rt_i C hr hlk hP hD hS ((if_neg c_1).trans ((if_neg c_2).trans ((if_neg c_3).trans ((if_neg c_4).trans ((if_pos c_5).trans ((if_neg c_6).trans ((if_neg c_7).trans ((if_pos c_61).trans ((if_neg c_62).trans ((if_neg c_68).trans ((if_pos c_74).trans ((if_neg c_92).trans ((if_neg c_98).trans ((if_pos c_99).trans ((if_neg c_100).trans rfl))))))))))))))) dX7_send_199
                            · refine lv_aload_n hx hb dX7_send_169 rfl (lv_at hl 0 rfl) ?_
                              refine lv_iload_n hx hb dX7_send_170 rfl (lv_at hl 1 rfl) ?_
                              refine lv_iload_n hx hb dX7_send_171 rfl (lv_at hl 2 rfl) ?_
                              refine kv_i C (c_X7_first l D cI cZ ad (ob_i (ob_i u 32 0) 22 ((u.1 22) ||| 8)) x1 x2 hA) (cwV 2 C.2.2.2.2.1 gX7_send_X7_first rfl rfl rfl hdX7_first ⟨Nat.le_of_ble_eq_true rfl, Nat.le_of_ble_eq_true rfl⟩) (ci := 7) (q0 := 0) rfl rfl rfl hP hD hS (sp_self (fun u => (w_7 cI ad u)) 9 (fun _ => rfl)) rfl hl.1 rfl (Nat.le_of_ble_eq_true rfl) dX7_send_172 ⟨Nat.zero_le _, Nat.zero_le _⟩ (fun H locs hP hD hS => ?_)
                              refine lv_goto (tgt := 199) hx hb dX7_send_175 (by decide) ?_
                              exact rt_i C hr hlk hP hD hS ((if_neg c_1).trans ((if_neg c_2).trans ((if_neg c_3).trans ((if_neg c_4).trans ((if_pos c_5).trans ((if_neg c_6).trans ((if_neg c_7).trans ((if_pos c_61).trans ((if_neg c_62).trans ((if_neg c_68).trans ((if_pos c_74).trans ((if_neg c_92).trans ((if_neg c_98).trans ((if_neg c_99).trans rfl)))))))))))))) dX7_send_199
                          · refine lv_aload_n hx hb dX7_send_139 rfl (lv_at hl 0 rfl) ?_
                            refine gt7_32 C hP in_X7_send_7 ln_X7_send_7 (v := (u.1 32)) rfl dX7_send_140 ?_
                            refine lv_iconst (v := 2) hx hb dX7_send_143 (by decide) ?_
                            refine lv_icmp_eq (tgt := 163) hx hb dX7_send_144 (by decide) (fun c_104 => ?_) (fun c_104 => ?_)
                            · refine lv_iload_n hx hb dX7_send_163 rfl (lv_at hl 1 rfl) ?_
                              refine lv_bipush (v := 16) hx hb dX7_send_164 (by decide) ?_
                              refine lv_icmp_ge (tgt := 178) hx hb dX7_send_166 (by decide) (fun c_105 => ?_) (fun c_105 => ?_)
                              · refine lv_iload_n hx hb dX7_send_178 rfl (lv_at hl 1 rfl) ?_
                                refine lv_bipush (v := 32) hx hb dX7_send_179 (by decide) ?_
                                refine lv_icmp_ge (tgt := 193) hx hb dX7_send_181 (by decide) (fun c_106 => ?_) (fun c_106 => ?_)
                                · refine lv_aload_n hx hb dX7_send_193 rfl (lv_at hl 0 rfl) ?_
                                  refine lv_iload_n hx hb dX7_send_194 rfl (lv_at hl 1 rfl) ?_
                                  refine lv_iload_n hx hb dX7_send_195 rfl (lv_at hl 2 rfl) ?_
                                  refine kv_i C (c_X7_erases l D cI cZ ad u x1 x2 hA) (cwV 2 C.2.2.2.2.1 gX7_send_X7_erases rfl rfl rfl hdX7_erases ⟨Nat.le_of_ble_eq_true rfl, Nat.le_of_ble_eq_true rfl⟩) (ci := 7) (q0 := 0) rfl rfl rfl hP hD hS (sp_self (fun u => (w_7 cI ad u)) 9 (fun _ => rfl)) rfl hl.1 rfl (Nat.le_of_ble_eq_true rfl) dX7_send_196 ⟨Nat.zero_le _, Nat.zero_le _⟩ (fun H locs hP hD hS => ?_)
                                  exact rt_i C hr hlk hP hD hS ((if_neg c_1).trans ((if_neg c_2).trans ((if_neg c_3).trans ((if_neg c_4).trans ((if_pos c_5).trans ((if_neg c_6).trans ((if_neg c_7).trans ((if_pos c_61).trans ((if_neg c_62).trans ((if_neg c_68).trans ((if_pos c_74).trans ((if_neg c_92).trans ((if_pos c_98).trans ((if_pos c_104).trans ((if_pos c_105).trans ((if_pos c_106).trans rfl)))))))))))))))) dX7_send_199
                                · refine lv_aload_n hx hb dX7_send_184 rfl (lv_at hl 0 rfl) ?_
                                  refine lv_iload_n hx hb dX7_send_185 rfl (lv_at hl 1 rfl) ?_
                                  refine lv_iload_n hx hb dX7_send_186 rfl (lv_at hl 2 rfl) ?_
                                  refine kv_i C (c_X7_streams l D cI cZ ad u x1 x2 ) (cwV 2 C.2.2.2.2.1 gX7_send_X7_streams rfl rfl rfl hdX7_streams ⟨Nat.le_of_ble_eq_true rfl, Nat.le_of_ble_eq_true rfl⟩) (ci := 7) (q0 := 0) rfl rfl rfl hP hD hS (sp_self (fun u => (w_7 cI ad u)) 9 (fun _ => rfl)) rfl hl.1 rfl (Nat.le_of_ble_eq_true rfl) dX7_send_187 ⟨Nat.zero_le _, Nat.zero_le _⟩ (fun H locs hP hD hS => ?_)
                                  refine lv_goto (tgt := 199) hx hb dX7_send_190 (by decide) ?_
                                  exact rt_i C hr hlk hP hD hS ((if_neg c_1).trans ((if_neg c_2).trans ((if_neg c_3).trans ((if_neg c_4).trans ((if_pos c_5).trans ((if_neg c_6).trans ((if_neg c_7).trans ((if_pos c_61).trans ((if_neg c_62).trans ((if_neg c_68).trans ((if_pos c_74).trans ((if_neg c_92).trans ((if_pos c_98).trans ((if_pos c_104).trans ((if_pos c_105).trans ((if_neg c_106).trans rfl)))))))))))))))) dX7_send_199
                              · refine lv_aload_n hx hb dX7_send_169 rfl (lv_at hl 0 rfl) ?_
                                refine lv_iload_n hx hb dX7_send_170 rfl (lv_at hl 1 rfl) ?_
                                refine lv_iload_n hx hb dX7_send_171 rfl (lv_at hl 2 rfl) ?_
                                refine kv_i C (c_X7_first l D cI cZ ad u x1 x2 hA) (cwV 2 C.2.2.2.2.1 gX7_send_X7_first rfl rfl rfl hdX7_first ⟨Nat.le_of_ble_eq_true rfl, Nat.le_of_ble_eq_true rfl⟩) (ci := 7) (q0 := 0) rfl rfl rfl hP hD hS (sp_self (fun u => (w_7 cI ad u)) 9 (fun _ => rfl)) rfl hl.1 rfl (Nat.le_of_ble_eq_true rfl) dX7_send_172 ⟨Nat.zero_le _, Nat.zero_le _⟩ (fun H locs hP hD hS => ?_)
                                refine lv_goto (tgt := 199) hx hb dX7_send_175 (by decide) ?_
                                exact rt_i C hr hlk hP hD hS ((if_neg c_1).trans ((if_neg c_2).trans ((if_neg c_3).trans ((if_neg c_4).trans ((if_pos c_5).trans ((if_neg c_6).trans ((if_neg c_7).trans ((if_pos c_61).trans ((if_neg c_62).trans ((if_neg c_68).trans ((if_pos c_74).trans ((if_neg c_92).trans ((if_pos c_98).trans ((if_pos c_104).trans ((if_neg c_105).trans rfl))))))))))))))) dX7_send_199
                            · refine lv_aload_n hx hb dX7_send_147 rfl (lv_at hl 0 rfl) ?_
                              refine lv_iconst (v := 0) hx hb dX7_send_148 (by decide) ?_
                              refine pt7_32 C hP hD hS in_X7_send_7 ln_X7_send_7 dX7_send_149 (fun H locs hP hD hS => ?_)
                              refine lv_aload_n hx hb dX7_send_152 rfl (lv_at hl 0 rfl) ?_
                              refine lv_dup hx hb dX7_send_153 rfl ?_
                              refine gt7_22 C hP in_X7_send_7 ln_X7_send_5 (v := (u.1 22)) rfl dX7_send_154 ?_
                              refine lv_bipush (v := 8) hx hb dX7_send_157 (by decide) ?_
                              refine lv_ior hx hb dX7_send_159 ?_
                              refine pt7_22 C hP hD hS in_X7_send_7 ln_X7_send_5 dX7_send_160 (fun H locs hP hD hS => ?_)
                              refine lv_iload_n hx hb dX7_send_163 rfl (lv_at hl 1 rfl) ?_
                              refine lv_bipush (v := 16) hx hb dX7_send_164 (by decide) ?_
                              refine lv_icmp_ge (tgt := 178) hx hb dX7_send_166 (by decide) (fun c_110 => ?_) (fun c_110 => ?_)
                              · refine lv_iload_n hx hb dX7_send_178 rfl (lv_at hl 1 rfl) ?_
                                refine lv_bipush (v := 32) hx hb dX7_send_179 (by decide) ?_
                                refine lv_icmp_ge (tgt := 193) hx hb dX7_send_181 (by decide) (fun c_111 => ?_) (fun c_111 => ?_)
                                · refine lv_aload_n hx hb dX7_send_193 rfl (lv_at hl 0 rfl) ?_
                                  refine lv_iload_n hx hb dX7_send_194 rfl (lv_at hl 1 rfl) ?_
                                  refine lv_iload_n hx hb dX7_send_195 rfl (lv_at hl 2 rfl) ?_
                                  refine kv_i C (c_X7_erases l D cI cZ ad (ob_i (ob_i u 32 0) 22 ((u.1 22) ||| 8)) x1 x2 hA) (cwV 2 C.2.2.2.2.1 gX7_send_X7_erases rfl rfl rfl hdX7_erases ⟨Nat.le_of_ble_eq_true rfl, Nat.le_of_ble_eq_true rfl⟩) (ci := 7) (q0 := 0) rfl rfl rfl hP hD hS (sp_self (fun u => (w_7 cI ad u)) 9 (fun _ => rfl)) rfl hl.1 rfl (Nat.le_of_ble_eq_true rfl) dX7_send_196 ⟨Nat.zero_le _, Nat.zero_le _⟩ (fun H locs hP hD hS => ?_)
                                  exact rt_i C hr hlk hP hD hS ((if_neg c_1).trans ((if_neg c_2).trans ((if_neg c_3).trans ((if_neg c_4).trans ((if_pos c_5).trans ((if_neg c_6).trans ((if_neg c_7).trans ((if_pos c_61).trans ((if_neg c_62).trans ((if_neg c_68).trans ((if_pos c_74).trans ((if_neg c_92).trans ((if_pos c_98).trans ((if_neg c_104).trans ((if_pos c_110).trans ((if_pos c_111).trans rfl)))))))))))))))) dX7_send_199
                                · refine lv_aload_n hx hb dX7_send_184 rfl (lv_at hl 0 rfl) ?_
                                  refine lv_iload_n hx hb dX7_send_185 rfl (lv_at hl 1 rfl) ?_
                                  refine lv_iload_n hx hb dX7_send_186 rfl (lv_at hl 2 rfl) ?_
                                  refine kv_i C (c_X7_streams l D cI cZ ad (ob_i (ob_i u 32 0) 22 ((u.1 22) ||| 8)) x1 x2 ) (cwV 2 C.2.2.2.2.1 gX7_send_X7_streams rfl rfl rfl hdX7_streams ⟨Nat.le_of_ble_eq_true rfl, Nat.le_of_ble_eq_true rfl⟩) (ci := 7) (q0 := 0) rfl rfl rfl hP hD hS (sp_self (fun u => (w_7 cI ad u)) 9 (fun _ => rfl)) rfl hl.1 rfl (Nat.le_of_ble_eq_true rfl) dX7_send_187 ⟨Nat.zero_le _, Nat.zero_le _⟩ (fun H locs hP hD hS => ?_)
                                  refine lv_goto (tgt := 199) hx hb dX7_send_190 (by decide) ?_
                                  exact rt_i C hr hlk hP hD hS ((if_neg c_1).trans ((if_neg c_2).trans ((if_neg c_3).trans ((if_neg c_4).trans ((if_pos c_5).trans ((if_neg c_6).trans ((if_neg c_7).trans ((if_pos c_61).trans ((if_neg c_62).trans ((if_neg c_68).trans ((if_pos c_74).trans ((if_neg c_92).trans ((if_pos c_98).trans ((if_neg c_104).trans ((if_pos c_110).trans ((if_neg c_111).trans rfl)))))))))))))))) dX7_send_199
                              · refine lv_aload_n hx hb dX7_send_169 rfl (lv_at hl 0 rfl) ?_
                                refine lv_iload_n hx hb dX7_send_170 rfl (lv_at hl 1 rfl) ?_
                                refine lv_iload_n hx hb dX7_send_171 rfl (lv_at hl 2 rfl) ?_
                                refine kv_i C (c_X7_first l D cI cZ ad (ob_i (ob_i u 32 0) 22 ((u.1 22) ||| 8)) x1 x2 hA) (cwV 2 C.2.2.2.2.1 gX7_send_X7_first rfl rfl rfl hdX7_first ⟨Nat.le_of_ble_eq_true rfl, Nat.le_of_ble_eq_true rfl⟩) (ci := 7) (q0 := 0) rfl rfl rfl hP hD hS (sp_self (fun u => (w_7 cI ad u)) 9 (fun _ => rfl)) rfl hl.1 rfl (Nat.le_of_ble_eq_true rfl) dX7_send_172 ⟨Nat.zero_le _, Nat.zero_le _⟩ (fun H locs hP hD hS => ?_)
                                refine lv_goto (tgt := 199) hx hb dX7_send_175 (by decide) ?_
                                exact rt_i C hr hlk hP hD hS ((if_neg c_1).trans ((if_neg c_2).trans ((if_neg c_3).trans ((if_neg c_4).trans ((if_pos c_5).trans ((if_neg c_6).trans ((if_neg c_7).trans ((if_pos c_61).trans ((if_neg c_62).trans ((if_neg c_68).trans ((if_pos c_74).trans ((if_neg c_92).trans ((if_pos c_98).trans ((if_neg c_104).trans ((if_neg c_110).trans rfl))))))))))))))) dX7_send_199
                · refine lv_aload_n hx hb dX7_send_93 rfl (lv_at hl 0 rfl) ?_
                  refine lv_dup hx hb dX7_send_94 rfl ?_
                  refine gt7_22 C hP in_X7_send_7 ln_X7_send_5 (v := (u.1 22)) rfl dX7_send_95 ?_
                  refine lv_iconst (v := 2) hx hb dX7_send_98 (by decide) ?_
                  refine lv_ior hx hb dX7_send_99 ?_
                  refine pt7_22 C hP hD hS in_X7_send_7 ln_X7_send_5 dX7_send_100 (fun H locs hP hD hS => ?_)
                  refine lv_bipush (v := (-4)) hx hb dX7_send_103 (by decide) ?_
                  exact rt_i C hr hlk hP hD hS ((if_neg c_1).trans ((if_neg c_2).trans ((if_neg c_3).trans ((if_neg c_4).trans ((if_pos c_5).trans ((if_neg c_6).trans ((if_neg c_7).trans ((if_neg c_61).trans rfl)))))))) dX7_send_105
          · refine lv_aload_n hx hb dX7_send_58 rfl (lv_at hl 0 rfl) ?_
            refine lv_dup hx hb dX7_send_59 rfl ?_
            refine gt7_22 C hP in_X7_send_7 ln_X7_send_5 (v := (u.1 22)) rfl dX7_send_60 ?_
            refine lv_iconst (v := 1) hx hb dX7_send_63 (by decide) ?_
            refine lv_ior hx hb dX7_send_64 ?_
            refine pt7_22 C hP hD hS in_X7_send_7 ln_X7_send_5 dX7_send_65 (fun H locs hP hD hS => ?_)
            refine lv_bipush (v := (-4)) hx hb dX7_send_68 (by decide) ?_
            exact rt_i C hr hlk hP hD hS ((if_neg c_1).trans ((if_neg c_2).trans ((if_neg c_3).trans ((if_neg c_4).trans ((if_neg c_5).trans rfl))))) dX7_send_70
        · refine lv_bipush (v := (-4)) hx hb dX7_send_45 (by decide) ?_
          exact rt_i C hr hlk hP hD hS ((if_neg c_1).trans ((if_neg c_2).trans ((if_neg c_3).trans ((if_pos c_4).trans rfl)))) dX7_send_47
      · refine lv_iconst (v := (-1)) hx hb dX7_send_36 (by decide) ?_
        exact rt_i C hr hlk hP hD hS ((if_neg c_1).trans ((if_neg c_2).trans ((if_pos c_3).trans rfl))) dX7_send_37
theorem ln_X7_tell_1 : Cond.constantLong RX7 162 (63) ∈ wsX7_tell := List.mem_of_getElem? (i := 1) rfl
theorem ln_X7_tell_2 : Cond.constantLong RX7 50 (65535) ∈ wsX7_tell := List.mem_of_getElem? (i := 2) rfl
set_option maxHeartbeats 4000000 in
set_option maxRecDepth 100000 in
theorem c_X7_tell (l : Launch) (D : va_G) (cI cZ : ClassId) (ad : Nat → Nat) (u : ob_S) (x1 : Int32) (x2 : Int32) (hA : pm_A u) : Ct_i l yX7_tell wsX7_tell ({ frames := 6, cells := 0, slots := 0, locals := 138 } : Room) D (ct_T cI cZ) [.ref (ad 0), .int x1, .int x2] (w_7 cI ad u) (fun u => (w_7 cI ad u)) (f_X7_tell u x1 x2) := by
  refine en_i (cc := cX7_tell) (maxL := 3) (ret := (some .int)) (own := RX7) (by decide +kernel) rfl rfl (Nat.le_of_ble_eq_true rfl) ?_
  intro p e s m args below meth c A ls C hr hlk hP hD hS hl
  have hx := C.1
  have hb := C.2.1
  have hl : lv_has ls 3 [(0, .ref (ad 0)), (1, .int x1), (2, .int x2)] := hl
  refine lv_iload_n hx hb dX7_tell_0 rfl (lv_at hl 1 rfl) ?_
  refine lv_i2l hx hb dX7_tell_1 rfl ?_
  refine lv_lconst (v := 0) hx hb dX7_tell_2 (by decide) ?_
  refine lv_ldc2 (v := 63) hx hb C.2.2.2.1 (C.2.2.2.2.1 _ ln_X7_tell_1) dX7_tell_3 ?_
  refine ks_p C (c_X7_in l D cI cZ (Int32.toInt64 x1) 0 63 ) (va_cwS 3 C.2.2.2.2.1 gX7_tell_X7_in rfl rfl rfl hdX7_in ⟨Nat.le_of_ble_eq_true rfl, Nat.le_of_ble_eq_true rfl⟩) hP hD hS rfl hl.1 rfl (Nat.le_of_ble_eq_true rfl) dX7_tell_6 ⟨Nat.zero_le _, Nat.zero_le _⟩ (fun H locs hP hS => ?_)
  refine lv_if_eq (tgt := 39) hx hb dX7_tell_9 (by decide) (fun c_1 => ?_) (fun c_1 => ?_)
  · refine lv_iconst (v := (-1)) hx hb dX7_tell_39 (by decide) ?_
    exact rt_i C hr hlk hP hD hS ((if_pos c_1).trans rfl) dX7_tell_40
  · refine lv_iload_n hx hb dX7_tell_12 rfl (lv_at hl 2 rfl) ?_
    refine lv_i2l hx hb dX7_tell_13 rfl ?_
    refine lv_lconst (v := 0) hx hb dX7_tell_14 (by decide) ?_
    refine lv_ldc2 (v := 65535) hx hb C.2.2.2.1 (C.2.2.2.2.1 _ ln_X7_tell_2) dX7_tell_15 ?_
    refine ks_p C (c_X7_in l D cI cZ (Int32.toInt64 x2) 0 65535 ) (va_cwS 3 C.2.2.2.2.1 gX7_tell_X7_in rfl rfl rfl hdX7_in ⟨Nat.le_of_ble_eq_true rfl, Nat.le_of_ble_eq_true rfl⟩) hP hD hS rfl hl.1 rfl (Nat.le_of_ble_eq_true rfl) dX7_tell_18 ⟨Nat.zero_le _, Nat.zero_le _⟩ (fun H locs hP hS => ?_)
    refine lv_if_eq (tgt := 39) hx hb dX7_tell_21 (by decide) (fun c_2 => ?_) (fun c_2 => ?_)
    · refine lv_iconst (v := (-1)) hx hb dX7_tell_39 (by decide) ?_
      exact rt_i C hr hlk hP hD hS ((if_neg c_1).trans ((if_pos c_2).trans rfl)) dX7_tell_40
    · refine lv_aload_n hx hb dX7_tell_24 rfl (lv_at hl 0 rfl) ?_
      refine lv_iload_n hx hb dX7_tell_25 rfl (lv_at hl 1 rfl) ?_
      refine lv_iload_n hx hb dX7_tell_26 rfl (lv_at hl 2 rfl) ?_
      refine lv_aload_n hx hb dX7_tell_27 rfl (lv_at hl 0 rfl) ?_
      refine lv_iload_n hx hb dX7_tell_28 rfl (lv_at hl 1 rfl) ?_
      refine lv_iload_n hx hb dX7_tell_29 rfl (lv_at hl 2 rfl) ?_
      refine kv_p C (c_X7_check l D cI cZ ad u x1 x2 ) (cwV 2 C.2.2.2.2.1 gX7_tell_X7_check rfl rfl rfl hdX7_check ⟨Nat.le_of_ble_eq_true rfl, Nat.le_of_ble_eq_true rfl⟩) (ci := 7) (q0 := 0) rfl rfl rfl hP hD hS (su_self _) rfl hl.1 rfl (Nat.le_of_ble_eq_true rfl) dX7_tell_30 ⟨Nat.zero_le _, Nat.zero_le _⟩ (fun H locs hP hS => ?_)
      refine kv_i C (c_X7_send l D cI cZ ad u x1 x2 (f_X7_check u x1 x2) hA) (cwV 3 C.2.2.2.2.1 gX7_tell_X7_send rfl rfl rfl hdX7_send ⟨Nat.le_of_ble_eq_true rfl, Nat.le_of_ble_eq_true rfl⟩) (ci := 7) (q0 := 0) rfl rfl rfl hP hD hS (sp_self (fun u => (w_7 cI ad u)) 9 (fun _ => rfl)) rfl hl.1 rfl (Nat.le_of_ble_eq_true rfl) dX7_tell_33 ⟨Nat.zero_le _, Nat.zero_le _⟩ (fun H locs hP hD hS => ?_)
      refine lv_goto (tgt := 40) hx hb dX7_tell_36 (by decide) ?_
      exact rt_i C hr hlk hP hD hS ((if_neg c_1).trans ((if_neg c_2).trans rfl)) dX7_tell_40
theorem ln_X7_give_1 : Cond.constantLong RX7 50 (65535) ∈ wsX7_give := List.mem_of_getElem? (i := 1) rfl
theorem ln_X7_give_2 : Cond.constantLong RX7 177 (127) ∈ wsX7_give := List.mem_of_getElem? (i := 2) rfl
theorem ln_X7_give_3 : Cond.fieldLink RX7 78 "BlockCardModel" "isOn" "Z" ∈ wsX7_give := List.mem_of_getElem? (i := 3) rfl
theorem in_X7_give_7 : ∀ w ∈ wsX70, w ∈ wsX7_give := fun w h => List.mem_cons_of_mem _ (List.mem_append_right _ h)
theorem ln_X7_give_4 : Cond.fieldLink RX7 85 "BlockCardModel" "state" "I" ∈ wsX7_give := List.mem_of_getElem? (i := 4) rfl
theorem ln_X7_give_5 : Cond.fieldLink RX7 130 "BlockCardModel" "isWrong" "Z" ∈ wsX7_give := List.mem_of_getElem? (i := 5) rfl
theorem ln_X7_give_6 : Cond.fieldLink RX7 127 "BlockCardModel" "left" "I" ∈ wsX7_give := List.mem_of_getElem? (i := 6) rfl
theorem ln_X7_give_7 : Cond.fieldLink RX7 124 "BlockCardModel" "next" "I" ∈ wsX7_give := List.mem_of_getElem? (i := 7) rfl
theorem ln_X7_give_8 : Cond.fieldLink RX7 52 "BlockCardModel" "blocks" "I" ∈ wsX7_give := List.mem_of_getElem? (i := 8) rfl
theorem ln_X7_give_9 : Cond.fieldLink RX7 106 "BlockCardModel" "laterMany" "I" ∈ wsX7_give := List.mem_of_getElem? (i := 9) rfl
theorem ln_X7_give_10 : Cond.fieldLink RX7 103 "BlockCardModel" "notes" "I" ∈ wsX7_give := List.mem_of_getElem? (i := 10) rfl
theorem ln_X7_give_11 : Cond.fieldLink RX7 25 "BlockCardModel" "laterBlock" "[I" ∈ wsX7_give := List.mem_of_getElem? (i := 11) rfl
theorem ln_X7_give_12 : Cond.fieldLink RX7 28 "BlockCardModel" "laterContent" "[I" ∈ wsX7_give := List.mem_of_getElem? (i := 12) rfl
theorem ln_X7_give_13 : Cond.fieldLink RX7 31 "BlockCardModel" "laterTicks" "[I" ∈ wsX7_give := List.mem_of_getElem? (i := 13) rfl
set_option maxHeartbeats 4000000 in
set_option maxRecDepth 100000 in
theorem c_X7_give (l : Launch) (D : va_G) (cI cZ : ClassId) (ad : Nat → Nat) (u : ob_S) (x1 : Int32) (x2 : Int32) (hm : 0 ≤ (u.1 23).toInt ∧ (u.1 23).toInt ≤ 2) : Ct_i l yX7_give wsX7_give ({ frames := 2, cells := 0, slots := 0, locals := 46 } : Room) D (ct_T cI cZ) [.ref (ad 0), .int x1, .int x2] (w_7 cI ad u) (fun u => (w_7 cI ad u)) (f_X7_give u x1 x2) := by
  refine en_i (cc := cX7_give) (maxL := 3) (ret := (some .int)) (own := RX7) (by decide +kernel) rfl rfl (Nat.le_of_ble_eq_true rfl) ?_
  intro p e s m args below meth c A ls C hr hlk hP hD hS hl
  have hx := C.1
  have hb := C.2.1
  have hl : lv_has ls 3 [(0, .ref (ad 0)), (1, .int x1), (2, .int x2)] := hl
  refine lv_iload_n hx hb dX7_give_0 rfl (lv_at hl 1 rfl) ?_
  refine lv_i2l hx hb dX7_give_1 rfl ?_
  refine lv_lconst (v := 0) hx hb dX7_give_2 (by decide) ?_
  refine lv_ldc2 (v := 65535) hx hb C.2.2.2.1 (C.2.2.2.2.1 _ ln_X7_give_1) dX7_give_3 ?_
  refine ks_p C (c_X7_in l D cI cZ (Int32.toInt64 x1) 0 65535 ) (va_cwS 3 C.2.2.2.2.1 gX7_give_X7_in rfl rfl rfl hdX7_in ⟨Nat.le_of_ble_eq_true rfl, Nat.le_of_ble_eq_true rfl⟩) hP hD hS rfl hl.1 rfl (Nat.le_of_ble_eq_true rfl) dX7_give_6 ⟨Nat.zero_le _, Nat.zero_le _⟩ (fun H locs hP hS => ?_)
  refine lv_if_eq (tgt := 24) hx hb dX7_give_9 (by decide) (fun c_1 => ?_) (fun c_1 => ?_)
  · refine lv_iconst (v := (-1)) hx hb dX7_give_24 (by decide) ?_
    exact rt_i C hr hlk hP hD hS ((if_pos c_1).trans rfl) dX7_give_25
  · refine lv_iload_n hx hb dX7_give_12 rfl (lv_at hl 2 rfl) ?_
    refine lv_i2l hx hb dX7_give_13 rfl ?_
    refine lv_lconst (v := 0) hx hb dX7_give_14 (by decide) ?_
    refine lv_ldc2 (v := 127) hx hb C.2.2.2.1 (C.2.2.2.2.1 _ ln_X7_give_2) dX7_give_15 ?_
    refine ks_p C (c_X7_in l D cI cZ (Int32.toInt64 x2) 0 127 ) (va_cwS 3 C.2.2.2.2.1 gX7_give_X7_in rfl rfl rfl hdX7_in ⟨Nat.le_of_ble_eq_true rfl, Nat.le_of_ble_eq_true rfl⟩) hP hD hS rfl hl.1 rfl (Nat.le_of_ble_eq_true rfl) dX7_give_18 ⟨Nat.zero_le _, Nat.zero_le _⟩ (fun H locs hP hS => ?_)
    refine lv_if_ne (tgt := 26) hx hb dX7_give_21 (by decide) (fun c_2 => ?_) (fun c_2 => ?_)
    · refine lv_aload_n hx hb dX7_give_26 rfl (lv_at hl 0 rfl) ?_
      refine gt7_15 C hP in_X7_give_7 ln_X7_give_3 (v := (u.1 15)) rfl dX7_give_27 ?_
      refine lv_if_eq (tgt := 56) hx hb dX7_give_30 (by decide) (fun c_3 => ?_) (fun c_3 => ?_)
      · refine lv_bipush (v := (-2)) hx hb dX7_give_56 (by decide) ?_
        exact rt_i C hr hlk hP hD hS ((if_neg c_1).trans ((if_neg c_2).trans ((if_pos c_3).trans rfl))) dX7_give_58
      · refine lv_aload_n hx hb dX7_give_33 rfl (lv_at hl 0 rfl) ?_
        refine gt7_16 C hP in_X7_give_7 ln_X7_give_4 (v := (u.1 16)) rfl dX7_give_34 ?_
        refine lv_bipush (v := 6) hx hb dX7_give_37 (by decide) ?_
        refine lv_icmp_ne (tgt := 56) hx hb dX7_give_39 (by decide) (fun c_4 => ?_) (fun c_4 => ?_)
        · refine lv_bipush (v := (-2)) hx hb dX7_give_56 (by decide) ?_
          exact rt_i C hr hlk hP hD hS ((if_neg c_1).trans ((if_neg c_2).trans ((if_neg c_3).trans ((if_neg c_4).trans rfl)))) dX7_give_58
        · refine lv_aload_n hx hb dX7_give_42 rfl (lv_at hl 0 rfl) ?_
          refine gt7_37 C hP in_X7_give_7 ln_X7_give_5 (v := (u.1 37)) rfl dX7_give_43 ?_
          refine lv_if_ne (tgt := 56) hx hb dX7_give_46 (by decide) (fun c_5 => ?_) (fun c_5 => ?_)
          · refine lv_bipush (v := (-2)) hx hb dX7_give_56 (by decide) ?_
            exact rt_i C hr hlk hP hD hS ((if_neg c_1).trans ((if_neg c_2).trans ((if_neg c_3).trans ((if_pos c_4).trans ((if_neg c_5).trans rfl))))) dX7_give_58
          · refine lv_aload_n hx hb dX7_give_49 rfl (lv_at hl 0 rfl) ?_
            refine gt7_36 C hP in_X7_give_7 ln_X7_give_6 (v := (u.1 36)) rfl dX7_give_50 ?_
            refine lv_if_ne (tgt := 59) hx hb dX7_give_53 (by decide) (fun c_6 => ?_) (fun c_6 => ?_)
            · refine lv_aload_n hx hb dX7_give_59 rfl (lv_at hl 0 rfl) ?_
              refine gt7_35 C hP in_X7_give_7 ln_X7_give_7 (v := (u.1 35)) rfl dX7_give_60 ?_
              refine lv_aload_n hx hb dX7_give_63 rfl (lv_at hl 0 rfl) ?_
              refine gt7_3 C hP in_X7_give_7 ln_X7_give_8 (v := (u.1 3)) rfl dX7_give_64 ?_
              refine lv_icmp_lt (tgt := 76) hx hb dX7_give_67 (by decide) (fun c_7 => ?_) (fun c_7 => ?_)
              · refine lv_aload_n hx hb dX7_give_76 rfl (lv_at hl 0 rfl) ?_
                refine gt7_23 C hP in_X7_give_7 ln_X7_give_9 (v := (u.1 23)) rfl dX7_give_77 ?_
                refine lv_iconst (v := 2) hx hb dX7_give_80 (by decide) ?_
                refine lv_icmp_ne (tgt := 87) hx hb dX7_give_81 (by decide) (fun c_8 => ?_) (fun c_8 => ?_)
                · refine lv_aload_n hx hb dX7_give_87 rfl (lv_at hl 0 rfl) ?_
                  refine kv_p C (c_X7_isInWindow l D cI cZ ad u  ) (cwV 0 C.2.2.2.2.1 gX7_give_X7_isInWindow rfl rfl rfl hdX7_isInWindow ⟨Nat.le_of_ble_eq_true rfl, Nat.le_of_ble_eq_true rfl⟩) (ci := 7) (q0 := 0) rfl rfl rfl hP hD hS (su_self _) rfl hl.1 rfl (Nat.le_of_ble_eq_true rfl) dX7_give_88 ⟨Nat.zero_le _, Nat.zero_le _⟩ (fun H locs hP hS => ?_)
                  refine lv_if_eq (tgt := 103) hx hb dX7_give_91 (by decide) (fun c_9 => ?_) (fun c_9 => ?_)
                  · refine lv_aload_n hx hb dX7_give_103 rfl (lv_at hl 0 rfl) ?_
                    refine lv_dup hx hb dX7_give_104 rfl ?_
                    refine gt7_22 C hP in_X7_give_7 ln_X7_give_10 (v := (u.1 22)) rfl dX7_give_105 ?_
                    refine lv_bipush (v := 64) hx hb dX7_give_108 (by decide) ?_
                    refine lv_ior hx hb dX7_give_110 ?_
                    refine pt7_22 C hP hD hS in_X7_give_7 ln_X7_give_10 dX7_give_111 (fun H locs hP hD hS => ?_)
                    refine lv_aload_n hx hb dX7_give_114 rfl (lv_at hl 0 rfl) ?_
                    refine lv_iconst (v := 1) hx hb dX7_give_115 (by decide) ?_
                    refine pt7_37 C hP hD hS in_X7_give_7 ln_X7_give_5 (Or.inr rfl) dX7_give_116 (fun H locs hP hD hS => ?_)
                    refine lv_iconst (v := 0) hx hb dX7_give_119 (by decide) ?_
                    exact rt_i C hr hlk hP hD hS ((if_neg c_1).trans ((if_neg c_2).trans ((if_neg c_3).trans ((if_pos c_4).trans ((if_pos c_5).trans ((if_neg c_6).trans ((if_pos c_7).trans ((if_neg c_8).trans ((if_pos c_9).trans rfl))))))))) dX7_give_120
                  · refine lv_iload_n hx hb dX7_give_94 rfl (lv_at hl 2 rfl) ?_
                    refine lv_aload_n hx hb dX7_give_95 rfl (lv_at hl 0 rfl) ?_
                    refine lv_iload_n hx hb dX7_give_96 rfl (lv_at hl 1 rfl) ?_
                    refine kv_p C (c_X7_checkOf l D cI cZ ad u x1 ) (cwV 1 C.2.2.2.2.1 gX7_give_X7_checkOf rfl rfl rfl hdX7_checkOf ⟨Nat.le_of_ble_eq_true rfl, Nat.le_of_ble_eq_true rfl⟩) (ci := 7) (q0 := 0) rfl rfl rfl hP hD hS (su_self _) rfl hl.1 rfl (Nat.le_of_ble_eq_true rfl) dX7_give_97 ⟨Nat.zero_le _, Nat.zero_le _⟩ (fun H locs hP hS => ?_)
                    refine lv_icmp_eq (tgt := 121) hx hb dX7_give_100 (by decide) (fun c_10 => ?_) (fun c_10 => ?_)
                    · refine lv_aload_n hx hb dX7_give_121 rfl (lv_at hl 0 rfl) ?_
                      refine gt7_24 C hP in_X7_give_7 ln_X7_give_11 dX7_give_122 ?_
                      refine lv_aload_n hx hb dX7_give_125 rfl (lv_at hl 0 rfl) ?_
                      refine gt7_23 C hP in_X7_give_7 ln_X7_give_9 (v := (u.1 23)) rfl dX7_give_126 ?_
                      refine lv_aload_n hx hb dX7_give_129 rfl (lv_at hl 0 rfl) ?_
                      refine gt7_35 C hP in_X7_give_7 ln_X7_give_7 (v := (u.1 35)) rfl dX7_give_130 ?_
                      refine as7_24 C hP hD hS (ix_c (n := 2) (i := u.1 23) hm.1 (by have h := ne_t (k := 2) (n := 2) c_8 (by decide); omega)) dX7_give_133 (fun H locs hP hD hS => ?_)
                      refine lv_aload_n hx hb dX7_give_134 rfl (lv_at hl 0 rfl) ?_
                      refine gt7_25 C hP in_X7_give_7 ln_X7_give_12 dX7_give_135 ?_
                      refine lv_aload_n hx hb dX7_give_138 rfl (lv_at hl 0 rfl) ?_
                      refine gt7_23 C hP in_X7_give_7 ln_X7_give_9 (v := (u.1 23)) rfl dX7_give_139 ?_
                      refine lv_iload_n hx hb dX7_give_142 rfl (lv_at hl 1 rfl) ?_
                      refine as7_25 C hP hD hS (ix_c (n := 2) (i := u.1 23) hm.1 (by have h := ne_t (k := 2) (n := 2) c_8 (by decide); omega)) dX7_give_143 (fun H locs hP hD hS => ?_)
                      refine lv_aload_n hx hb dX7_give_144 rfl (lv_at hl 0 rfl) ?_
                      refine gt7_26 C hP in_X7_give_7 ln_X7_give_13 dX7_give_145 ?_
                      refine lv_aload_n hx hb dX7_give_148 rfl (lv_at hl 0 rfl) ?_
                      refine gt7_23 C hP in_X7_give_7 ln_X7_give_9 (v := (u.1 23)) rfl dX7_give_149 ?_
                      refine lv_iconst (v := 0) hx hb dX7_give_152 (by decide) ?_
                      refine as7_26 C hP hD hS (ix_c (n := 2) (i := u.1 23) hm.1 (by have h := ne_t (k := 2) (n := 2) c_8 (by decide); omega)) dX7_give_153 (fun H locs hP hD hS => ?_)
                      refine lv_aload_n hx hb dX7_give_154 rfl (lv_at hl 0 rfl) ?_
                      refine lv_dup hx hb dX7_give_155 rfl ?_
                      refine gt7_23 C hP in_X7_give_7 ln_X7_give_9 (v := (u.1 23)) rfl dX7_give_156 ?_
                      refine lv_iconst (v := 1) hx hb dX7_give_159 (by decide) ?_
                      refine lv_iadd hx hb dX7_give_160 ?_
                      refine pt7_23 C hP hD hS in_X7_give_7 ln_X7_give_9 dX7_give_161 (fun H locs hP hD hS => ?_)
                      refine lv_aload_n hx hb dX7_give_164 rfl (lv_at hl 0 rfl) ?_
                      refine lv_dup hx hb dX7_give_165 rfl ?_
                      refine gt7_35 C hP in_X7_give_7 ln_X7_give_7 (v := (u.1 35)) rfl dX7_give_166 ?_
                      refine lv_iconst (v := 1) hx hb dX7_give_169 (by decide) ?_
                      refine lv_iadd hx hb dX7_give_170 ?_
                      refine pt7_35 C hP hD hS in_X7_give_7 ln_X7_give_7 dX7_give_171 (fun H locs hP hD hS => ?_)
                      refine lv_aload_n hx hb dX7_give_174 rfl (lv_at hl 0 rfl) ?_
                      refine lv_aload_n hx hb dX7_give_175 rfl (lv_at hl 0 rfl) ?_
                      refine gt7_36 C hP in_X7_give_7 ln_X7_give_6 (v := (u.1 36)) rfl dX7_give_176 ?_
                      refine lv_bipush (v := (-4)) hx hb dX7_give_179 (by decide) ?_
                      refine jn_i (g := fun x => F0 m 195 ls (.int x :: [.ref (ad 0)])) ((if (u.1 36) = (-4) then (-4) else ((u.1 36) - 1))) (fun y_11 ey_11 => ?_) (fun J_11 => ?_)
                      · refine pt7_36 C hP hD hS in_X7_give_7 ln_X7_give_6 dX7_give_195 (fun H locs hP hD hS => ?_)
                        refine lv_aload_n hx hb dX7_give_198 rfl (lv_at hl 0 rfl) ?_
                        refine lv_aload_n hx hb dX7_give_199 rfl (lv_at hl 0 rfl) ?_
                        refine gt7_36 C hP in_X7_give_7 ln_X7_give_6 (v := y_11) rfl dX7_give_200 ?_
                        refine jn_i (g := fun x => F0 m 213 ls (.int x :: [.ref (ad 0)])) ((if y_11 = 0 then 7 else 6)) (fun y_13 ey_13 => ?_) (fun J_13 => ?_)
                        · refine pt7_16 C hP hD hS in_X7_give_7 ln_X7_give_4 dX7_give_213 (fun H locs hP hD hS => ?_)
                          refine lv_iconst (v := 1) hx hb dX7_give_216 (by decide) ?_
                          subst ey_11 ey_13
                          exact rt_i C hr hlk hP hD hS ((if_neg c_1).trans ((if_neg c_2).trans ((if_neg c_3).trans ((if_pos c_4).trans ((if_pos c_5).trans ((if_neg c_6).trans ((if_pos c_7).trans ((if_neg c_8).trans ((if_neg c_9).trans ((if_pos c_10).trans rfl)))))))))) dX7_give_217
                        · refine lv_if_ne (tgt := 211) hx hb dX7_give_203 (by decide) (fun c_14 => ?_) (fun c_14 => ?_)
                          · refine lv_bipush (v := 6) hx hb dX7_give_211 (by decide) ?_
                            exact J_13 _ ((if_neg c_14).trans rfl).symm
                          · refine lv_bipush (v := 7) hx hb dX7_give_206 (by decide) ?_
                            refine lv_goto (tgt := 213) hx hb dX7_give_208 (by decide) ?_
                            exact J_13 _ ((if_pos c_14).trans rfl).symm
                      · refine lv_icmp_ne (tgt := 189) hx hb dX7_give_181 (by decide) (fun c_12 => ?_) (fun c_12 => ?_)
                        · refine lv_aload_n hx hb dX7_give_189 rfl (lv_at hl 0 rfl) ?_
                          refine gt7_36 C hP in_X7_give_7 ln_X7_give_6 (v := (u.1 36)) rfl dX7_give_190 ?_
                          refine lv_iconst (v := 1) hx hb dX7_give_193 (by decide) ?_
                          refine lv_isub hx hb dX7_give_194 ?_
                          exact J_11 _ ((if_neg c_12).trans rfl).symm
                        · refine lv_bipush (v := (-4)) hx hb dX7_give_184 (by decide) ?_
                          refine lv_goto (tgt := 195) hx hb dX7_give_186 (by decide) ?_
                          exact J_11 _ ((if_pos c_12).trans rfl).symm
                    · refine lv_aload_n hx hb dX7_give_103 rfl (lv_at hl 0 rfl) ?_
                      refine lv_dup hx hb dX7_give_104 rfl ?_
                      refine gt7_22 C hP in_X7_give_7 ln_X7_give_10 (v := (u.1 22)) rfl dX7_give_105 ?_
                      refine lv_bipush (v := 64) hx hb dX7_give_108 (by decide) ?_
                      refine lv_ior hx hb dX7_give_110 ?_
                      refine pt7_22 C hP hD hS in_X7_give_7 ln_X7_give_10 dX7_give_111 (fun H locs hP hD hS => ?_)
                      refine lv_aload_n hx hb dX7_give_114 rfl (lv_at hl 0 rfl) ?_
                      refine lv_iconst (v := 1) hx hb dX7_give_115 (by decide) ?_
                      refine pt7_37 C hP hD hS in_X7_give_7 ln_X7_give_5 (Or.inr rfl) dX7_give_116 (fun H locs hP hD hS => ?_)
                      refine lv_iconst (v := 0) hx hb dX7_give_119 (by decide) ?_
                      exact rt_i C hr hlk hP hD hS ((if_neg c_1).trans ((if_neg c_2).trans ((if_neg c_3).trans ((if_pos c_4).trans ((if_pos c_5).trans ((if_neg c_6).trans ((if_pos c_7).trans ((if_neg c_8).trans ((if_neg c_9).trans ((if_neg c_10).trans rfl)))))))))) dX7_give_120
                · refine lv_bipush (v := (-3)) hx hb dX7_give_84 (by decide) ?_
                  exact rt_i C hr hlk hP hD hS ((if_neg c_1).trans ((if_neg c_2).trans ((if_neg c_3).trans ((if_pos c_4).trans ((if_pos c_5).trans ((if_neg c_6).trans ((if_pos c_7).trans ((if_pos c_8).trans rfl)))))))) dX7_give_86
              · refine lv_aload_n hx hb dX7_give_70 rfl (lv_at hl 0 rfl) ?_
                refine lv_iconst (v := 4) hx hb dX7_give_71 (by decide) ?_
                refine kv_i C (c_X7_noting l D cI cZ ad u 4 ) (cwV 1 C.2.2.2.2.1 gX7_give_X7_noting rfl rfl rfl hdX7_noting ⟨Nat.le_of_ble_eq_true rfl, Nat.le_of_ble_eq_true rfl⟩) (ci := 7) (q0 := 0) rfl rfl rfl hP hD hS (sp_self (fun u => (w_7 cI ad u)) 9 (fun _ => rfl)) rfl hl.1 rfl (Nat.le_of_ble_eq_true rfl) dX7_give_72 ⟨Nat.zero_le _, Nat.zero_le _⟩ (fun H locs hP hD hS => ?_)
                exact rt_i C hr hlk hP hD hS ((if_neg c_1).trans ((if_neg c_2).trans ((if_neg c_3).trans ((if_pos c_4).trans ((if_pos c_5).trans ((if_neg c_6).trans ((if_neg c_7).trans rfl))))))) dX7_give_75
            · refine lv_bipush (v := (-2)) hx hb dX7_give_56 (by decide) ?_
              exact rt_i C hr hlk hP hD hS ((if_neg c_1).trans ((if_neg c_2).trans ((if_neg c_3).trans ((if_pos c_4).trans ((if_pos c_5).trans ((if_pos c_6).trans rfl)))))) dX7_give_58
    · refine lv_iconst (v := (-1)) hx hb dX7_give_24 (by decide) ?_
      exact rt_i C hr hlk hP hD hS ((if_neg c_1).trans ((if_pos c_2).trans rfl)) dX7_give_25
theorem ln_X7_get_1 : Cond.fieldLink RX7 78 "BlockCardModel" "isOn" "Z" ∈ wsX7_get := List.mem_of_getElem? (i := 1) rfl
theorem in_X7_get_7 : ∀ w ∈ wsX70, w ∈ wsX7_get := fun w h => List.mem_cons_of_mem _ (List.mem_append_right _ h)
theorem ln_X7_get_2 : Cond.fieldLink RX7 85 "BlockCardModel" "state" "I" ∈ wsX7_get := List.mem_of_getElem? (i := 2) rfl
theorem ln_X7_get_3 : Cond.fieldLink RX7 16 "BlockCardModel" "torn" "[I" ∈ wsX7_get := List.mem_of_getElem? (i := 3) rfl
theorem ln_X7_get_4 : Cond.fieldLink RX7 124 "BlockCardModel" "next" "I" ∈ wsX7_get := List.mem_of_getElem? (i := 4) rfl
theorem ln_X7_get_5 : Cond.fieldLink RX7 13 "BlockCardModel" "content" "[I" ∈ wsX7_get := List.mem_of_getElem? (i := 5) rfl
theorem ln_X7_get_6 : Cond.fieldLink RX7 127 "BlockCardModel" "left" "I" ∈ wsX7_get := List.mem_of_getElem? (i := 6) rfl
theorem ln_X7_get_7 : Cond.fieldLink RX7 52 "BlockCardModel" "blocks" "I" ∈ wsX7_get := List.mem_of_getElem? (i := 7) rfl
set_option maxHeartbeats 4000000 in
set_option maxRecDepth 100000 in
theorem c_X7_get (l : Launch) (D : va_G) (cI cZ : ClassId) (ad : Nat → Nat) (u : ob_S) (hg : ¬ (u.1 15) = 0 → (u.1 16) = 5 → vp_in (u.1 35) 64) : Ct_i l yX7_get wsX7_get ({ frames := 1, cells := 0, slots := 0, locals := 22 } : Room) D (ct_T cI cZ) [.ref (ad 0)] (w_7 cI ad u) (fun u => (w_7 cI ad u)) (f_X7_get u) := by
  refine en_i (cc := cX7_get) (maxL := 2) (ret := (some .int)) (own := RX7) (by decide +kernel) rfl rfl (Nat.le_of_ble_eq_true rfl) ?_
  intro p e s m args below meth c A ls C hr hlk hP hD hS hl
  have hx := C.1
  have hb := C.2.1
  have hl : lv_has ls 2 [(0, .ref (ad 0))] := hl
  refine lv_aload_n hx hb dX7_get_0 rfl (lv_at hl 0 rfl) ?_
  refine gt7_15 C hP in_X7_get_7 ln_X7_get_1 (v := (u.1 15)) rfl dX7_get_1 ?_
  refine lv_if_eq (tgt := 15) hx hb dX7_get_4 (by decide) (fun c_1 => ?_) (fun c_1 => ?_)
  · refine lv_bipush (v := (-2)) hx hb dX7_get_15 (by decide) ?_
    exact rt_i C hr hlk hP hD hS ((if_pos c_1).trans rfl) dX7_get_17
  · refine lv_aload_n hx hb dX7_get_7 rfl (lv_at hl 0 rfl) ?_
    refine gt7_16 C hP in_X7_get_7 ln_X7_get_2 (v := (u.1 16)) rfl dX7_get_8 ?_
    refine lv_iconst (v := 5) hx hb dX7_get_11 (by decide) ?_
    refine lv_icmp_eq (tgt := 18) hx hb dX7_get_12 (by decide) (fun c_2 => ?_) (fun c_2 => ?_)
    · refine lv_aload_n hx hb dX7_get_18 rfl (lv_at hl 0 rfl) ?_
      refine kv_p C (c_X7_isInWindow l D cI cZ ad u  ) (cwV 0 C.2.2.2.2.1 gX7_get_X7_isInWindow rfl rfl rfl hdX7_isInWindow ⟨Nat.le_of_ble_eq_true rfl, Nat.le_of_ble_eq_true rfl⟩) (ci := 7) (q0 := 0) rfl rfl rfl hP hD hS (su_self _) rfl hl.1 rfl (Nat.le_of_ble_eq_true rfl) dX7_get_19 ⟨Nat.zero_le _, Nat.zero_le _⟩ (fun H locs hP hS => ?_)
      refine lv_if_eq (tgt := 38) hx hb dX7_get_22 (by decide) (fun c_3 => ?_) (fun c_3 => ?_)
      · refine lv_bipush (v := (-4)) hx hb dX7_get_38 (by decide) ?_
        exact rt_i C hr hlk hP hD hS ((if_neg c_1).trans ((if_pos c_2).trans ((if_pos c_3).trans rfl))) dX7_get_40
      · refine lv_aload_n hx hb dX7_get_25 rfl (lv_at hl 0 rfl) ?_
        refine gt7_10 C hP in_X7_get_7 ln_X7_get_3 dX7_get_26 ?_
        refine lv_aload_n hx hb dX7_get_29 rfl (lv_at hl 0 rfl) ?_
        refine gt7_35 C hP in_X7_get_7 ln_X7_get_4 (v := (u.1 35)) rfl dX7_get_30 ?_
        refine al7_10 C hP (hg c_1 c_2) (v := (u.2 10 (Int32.toNatClampNeg (u.1 35)))) rfl dX7_get_33 ?_
        refine lv_iconst (v := 1) hx hb dX7_get_34 (by decide) ?_
        refine lv_icmp_ne (tgt := 41) hx hb dX7_get_35 (by decide) (fun c_4 => ?_) (fun c_4 => ?_)
        · refine lv_aload_n hx hb dX7_get_41 rfl (lv_at hl 0 rfl) ?_
          refine gt7_9 C hP in_X7_get_7 ln_X7_get_5 dX7_get_42 ?_
          refine lv_aload_n hx hb dX7_get_45 rfl (lv_at hl 0 rfl) ?_
          refine gt7_35 C hP in_X7_get_7 ln_X7_get_4 (v := (u.1 35)) rfl dX7_get_46 ?_
          refine al7_9 C hP (hg c_1 c_2) (v := (u.2 9 (Int32.toNatClampNeg (u.1 35)))) rfl dX7_get_49 ?_
          refine lv_istore_n (lv' := [(1, .int _), (0, .ref _)]) hx hb dX7_get_50 rfl hl (by decide) rfl (fun ls hl => ?_)
          refine lv_aload_n hx hb dX7_get_51 rfl (lv_at hl 1 rfl) ?_
          refine lv_dup hx hb dX7_get_52 rfl ?_
          refine gt7_35 C hP in_X7_get_7 ln_X7_get_4 (v := (u.1 35)) rfl dX7_get_53 ?_
          refine lv_iconst (v := 1) hx hb dX7_get_56 (by decide) ?_
          refine lv_iadd hx hb dX7_get_57 ?_
          refine pt7_35 C hP hD hS in_X7_get_7 ln_X7_get_4 dX7_get_58 (fun H locs hP hD hS => ?_)
          refine lv_aload_n hx hb dX7_get_61 rfl (lv_at hl 1 rfl) ?_
          refine lv_aload_n hx hb dX7_get_62 rfl (lv_at hl 1 rfl) ?_
          refine gt7_36 C hP in_X7_get_7 ln_X7_get_6 (v := (u.1 36)) rfl dX7_get_63 ?_
          refine lv_bipush (v := (-4)) hx hb dX7_get_66 (by decide) ?_
          refine jn_i (g := fun x => F0 m 82 ls (.int x :: [.ref (ad 0)])) ((if (u.1 36) = (-4) then (-4) else ((u.1 36) - 1))) (fun y_5 ey_5 => ?_) (fun J_5 => ?_)
          · refine pt7_36 C hP hD hS in_X7_get_7 ln_X7_get_6 dX7_get_82 (fun H locs hP hD hS => ?_)
            refine lv_aload_n hx hb dX7_get_85 rfl (lv_at hl 1 rfl) ?_
            refine lv_aload_n hx hb dX7_get_86 rfl (lv_at hl 1 rfl) ?_
            refine gt7_36 C hP in_X7_get_7 ln_X7_get_6 (v := y_5) rfl dX7_get_87 ?_
            refine jn_i (g := fun x => F0 m 109 ls (.int x :: [.ref (ad 0)])) ((if y_5 = 0 then 4 else (if ((u.1 35) + 1) = (u.1 3) then 4 else 5))) (fun y_7 ey_7 => ?_) (fun J_7 => ?_)
            · refine pt7_16 C hP hD hS in_X7_get_7 ln_X7_get_2 dX7_get_109 (fun H locs hP hD hS => ?_)
              refine lv_iload_n hx hb dX7_get_112 rfl (lv_at hl 0 rfl) ?_
              subst ey_5 ey_7
              exact rt_i C hr hlk hP hD hS ((if_neg c_1).trans ((if_pos c_2).trans ((if_neg c_3).trans ((if_neg c_4).trans rfl)))) dX7_get_113
            · refine lv_if_eq (tgt := 104) hx hb dX7_get_90 (by decide) (fun c_8 => ?_) (fun c_8 => ?_)
              · refine lv_iconst (v := 4) hx hb dX7_get_104 (by decide) ?_
                refine lv_goto (tgt := 109) hx hb dX7_get_105 (by decide) ?_
                exact J_7 _ ((if_pos c_8).trans rfl).symm
              · refine lv_aload_n hx hb dX7_get_93 rfl (lv_at hl 1 rfl) ?_
                refine gt7_35 C hP in_X7_get_7 ln_X7_get_4 (v := ((u.1 35) + 1)) rfl dX7_get_94 ?_
                refine lv_aload_n hx hb dX7_get_97 rfl (lv_at hl 1 rfl) ?_
                refine gt7_3 C hP in_X7_get_7 ln_X7_get_7 (v := (u.1 3)) rfl dX7_get_98 ?_
                refine lv_icmp_ne (tgt := 108) hx hb dX7_get_101 (by decide) (fun c_9 => ?_) (fun c_9 => ?_)
                · refine lv_iconst (v := 5) hx hb dX7_get_108 (by decide) ?_
                  exact J_7 _ ((if_neg c_8).trans ((if_neg c_9).trans rfl)).symm
                · refine lv_iconst (v := 4) hx hb dX7_get_104 (by decide) ?_
                  refine lv_goto (tgt := 109) hx hb dX7_get_105 (by decide) ?_
                  exact J_7 _ ((if_neg c_8).trans ((if_pos c_9).trans rfl)).symm
          · refine lv_icmp_ne (tgt := 76) hx hb dX7_get_68 (by decide) (fun c_6 => ?_) (fun c_6 => ?_)
            · refine lv_aload_n hx hb dX7_get_76 rfl (lv_at hl 1 rfl) ?_
              refine gt7_36 C hP in_X7_get_7 ln_X7_get_6 (v := (u.1 36)) rfl dX7_get_77 ?_
              refine lv_iconst (v := 1) hx hb dX7_get_80 (by decide) ?_
              refine lv_isub hx hb dX7_get_81 ?_
              exact J_5 _ ((if_neg c_6).trans rfl).symm
            · refine lv_bipush (v := (-4)) hx hb dX7_get_71 (by decide) ?_
              refine lv_goto (tgt := 82) hx hb dX7_get_73 (by decide) ?_
              exact J_5 _ ((if_pos c_6).trans rfl).symm
        · refine lv_bipush (v := (-4)) hx hb dX7_get_38 (by decide) ?_
          exact rt_i C hr hlk hP hD hS ((if_neg c_1).trans ((if_pos c_2).trans ((if_neg c_3).trans ((if_pos c_4).trans rfl)))) dX7_get_40
    · refine lv_bipush (v := (-2)) hx hb dX7_get_15 (by decide) ?_
      exact rt_i C hr hlk hP hD hS ((if_neg c_1).trans ((if_neg c_2).trans rfl)) dX7_get_17
theorem ln_X7_writes_1 : Cond.fieldLink RX7 31 "BlockCardModel" "laterTicks" "[I" ∈ wsX7_writes := List.mem_of_getElem? (i := 1) rfl
theorem in_X7_writes_7 : ∀ w ∈ wsX70, w ∈ wsX7_writes := fun w h => List.mem_cons_of_mem _ (List.mem_append_right _ h)
theorem ln_X7_writes_2 : Cond.fieldLink RX7 91 "BlockCardModel" "lines" "I" ∈ wsX7_writes := List.mem_of_getElem? (i := 2) rfl
theorem ln_X7_writes_3 : Cond.fieldLink RX7 25 "BlockCardModel" "laterBlock" "[I" ∈ wsX7_writes := List.mem_of_getElem? (i := 3) rfl
theorem ln_X7_writes_4 : Cond.fieldLink RX7 13 "BlockCardModel" "content" "[I" ∈ wsX7_writes := List.mem_of_getElem? (i := 4) rfl
theorem ln_X7_writes_5 : Cond.fieldLink RX7 28 "BlockCardModel" "laterContent" "[I" ∈ wsX7_writes := List.mem_of_getElem? (i := 5) rfl
theorem ln_X7_writes_6 : Cond.fieldLink RX7 16 "BlockCardModel" "torn" "[I" ∈ wsX7_writes := List.mem_of_getElem? (i := 6) rfl
theorem ln_X7_writes_7 : Cond.fieldLink RX7 74 "BlockCardModel" "latestMany" "I" ∈ wsX7_writes := List.mem_of_getElem? (i := 7) rfl
theorem ln_X7_writes_8 : Cond.fieldLink RX7 22 "BlockCardModel" "latest" "[I" ∈ wsX7_writes := List.mem_of_getElem? (i := 8) rfl
theorem ln_X7_writes_9 : Cond.fieldLink RX7 68 "BlockCardModel" "well" "I" ∈ wsX7_writes := List.mem_of_getElem? (i := 9) rfl
theorem ln_X7_writes_10 : Cond.fieldLink RX7 106 "BlockCardModel" "laterMany" "I" ∈ wsX7_writes := List.mem_of_getElem? (i := 10) rfl
set_option maxHeartbeats 4000000 in
set_option maxRecDepth 100000 in
theorem lp_X7_writes_80 {p : Program} {l : Launch} {e : Env} {s : State} {m : MethodId} {args : Array Value} {below : List Frame} {meth : Method} {c : Code} {D : va_G} {A : Nat → Prop} {cI cZ : ClassId} {ad : Nat → Nat} {x1 : Int32} {F : ob_S} (C : cx_C p c cX7_writes 3 s m args wsX7_writes RX7 D (ct_T cI cZ) A) (hr : meth.sig.returnType = none) (hlk : meth.locks = false)  : ∀ (n : Nat) (x2 : Int32) (u : ob_S) (H : Heap) (locs : List Loc) (ls : Array Slot), x2.toInt < (n : Int) → 0 ≤ x2.toInt ∧ x2.toInt ≤ 63 → F = k_X7_writes_80 x1 n x2 u → va_P D vwCl (w_7 cI ad u) H → va_D A (w_7 cI ad u) → va_S A s.heap H locs → lv_has ls 3 [(0, .ref (ad 0)), (1, .int x1), (2, .int x2)] → W p l e ({ frames := 1, cells := 0, slots := 0, locals := 23 } : Room) s m args below meth c H locs 0 0 (MQ below (ct_Qv D (ct_T cI cZ) (fun u => (w_7 cI ad u)) F A) args s 0 0 A) (F0 m 80 ls []) := by
  have hx := C.1
  have hb := C.2.1
  intro n
  induction n with
  | zero =>
    intro x2 u H locs ls i0 i1
    exact absurd i0 (by omega)
  | succ n ih =>
    intro x2 u H locs ls i0 i1 hF hP hD hS hl
    refine lv_iload_n hx hb dX7_writes_80 rfl (lv_at hl 2 rfl) ?_
    refine lv_if_le (tgt := 104) hx hb dX7_writes_81 (by decide) (fun c_6 => ?_) (fun c_6 => ?_)
    · refine lv_aload_n hx hb dX7_writes_104 rfl (lv_at hl 0 rfl) ?_
      refine gt7_14 C hP in_X7_writes_7 ln_X7_writes_8 dX7_writes_105 ?_
      refine lv_iconst (v := 0) hx hb dX7_writes_108 (by decide) ?_
      refine lv_iload_n hx hb dX7_writes_109 rfl (lv_at hl 1 rfl) ?_
      refine as7_14 C hP hD hS (vp_in_iff.mpr (by decide)) dX7_writes_110 (fun H locs hP hD hS => ?_)
      refine lv_aload_n hx hb dX7_writes_111 rfl (lv_at hl 0 rfl) ?_
      refine lv_dup hx hb dX7_writes_112 rfl ?_
      refine gt7_13 C hP in_X7_writes_7 ln_X7_writes_7 (v := (u.1 13)) rfl dX7_writes_113 ?_
      refine lv_iconst (v := 1) hx hb dX7_writes_116 (by decide) ?_
      refine lv_iadd hx hb dX7_writes_117 ?_
      refine pt7_13 C hP hD hS in_X7_writes_7 ln_X7_writes_7 dX7_writes_118 (fun H locs hP hD hS => ?_)
      refine lv_aload_n hx hb dX7_writes_121 rfl (lv_at hl 0 rfl) ?_
      refine lv_dup hx hb dX7_writes_122 rfl ?_
      refine gt7_8 C hP in_X7_writes_7 ln_X7_writes_9 (v := (u.1 8)) rfl dX7_writes_123 ?_
      refine lv_iconst (v := 1) hx hb dX7_writes_126 (by decide) ?_
      refine lv_iadd hx hb dX7_writes_127 ?_
      refine pt7_8 C hP hD hS in_X7_writes_7 ln_X7_writes_9 dX7_writes_128 (fun H locs hP hD hS => ?_)
      refine lv_aload_n hx hb dX7_writes_131 rfl (lv_at hl 0 rfl) ?_
      refine lv_dup hx hb dX7_writes_132 rfl ?_
      refine gt7_23 C hP in_X7_writes_7 ln_X7_writes_10 (v := (u.1 23)) rfl dX7_writes_133 ?_
      refine lv_iconst (v := 1) hx hb dX7_writes_136 (by decide) ?_
      refine lv_isub hx hb dX7_writes_137 ?_
      refine pt7_23 C hP hD hS in_X7_writes_7 ln_X7_writes_10 dX7_writes_138 (fun H locs hP hD hS => ?_)
      refine lv_aload_n hx hb dX7_writes_141 rfl (lv_at hl 0 rfl) ?_
      refine gt7_24 C hP in_X7_writes_7 ln_X7_writes_3 dX7_writes_142 ?_
      refine lv_iconst (v := 0) hx hb dX7_writes_145 (by decide) ?_
      refine lv_aload_n hx hb dX7_writes_146 rfl (lv_at hl 0 rfl) ?_
      refine gt7_24 C hP in_X7_writes_7 ln_X7_writes_3 dX7_writes_147 ?_
      refine lv_iconst (v := 1) hx hb dX7_writes_150 (by decide) ?_
      refine al7_24 C hP (vp_in_iff.mpr (by decide)) (v := (u.2 24 (Int32.toNatClampNeg 1))) rfl dX7_writes_151 ?_
      refine as7_24 C hP hD hS (vp_in_iff.mpr (by decide)) dX7_writes_152 (fun H locs hP hD hS => ?_)
      refine lv_aload_n hx hb dX7_writes_153 rfl (lv_at hl 0 rfl) ?_
      refine gt7_25 C hP in_X7_writes_7 ln_X7_writes_5 dX7_writes_154 ?_
      refine lv_iconst (v := 0) hx hb dX7_writes_157 (by decide) ?_
      refine lv_aload_n hx hb dX7_writes_158 rfl (lv_at hl 0 rfl) ?_
      refine gt7_25 C hP in_X7_writes_7 ln_X7_writes_5 dX7_writes_159 ?_
      refine lv_iconst (v := 1) hx hb dX7_writes_162 (by decide) ?_
      refine al7_25 C hP (vp_in_iff.mpr (by decide)) (v := (u.2 25 (Int32.toNatClampNeg 1))) rfl dX7_writes_163 ?_
      refine as7_25 C hP hD hS (vp_in_iff.mpr (by decide)) dX7_writes_164 (fun H locs hP hD hS => ?_)
      refine lv_aload_n hx hb dX7_writes_165 rfl (lv_at hl 0 rfl) ?_
      refine gt7_26 C hP in_X7_writes_7 ln_X7_writes_1 dX7_writes_166 ?_
      refine lv_iconst (v := 0) hx hb dX7_writes_169 (by decide) ?_
      refine lv_aload_n hx hb dX7_writes_170 rfl (lv_at hl 0 rfl) ?_
      refine gt7_26 C hP in_X7_writes_7 ln_X7_writes_1 dX7_writes_171 ?_
      refine lv_iconst (v := 1) hx hb dX7_writes_174 (by decide) ?_
      refine al7_26 C hP (vp_in_iff.mpr (by decide)) (v := (u.2 26 (Int32.toNatClampNeg 1))) rfl dX7_writes_175 ?_
      refine as7_26 C hP hD hS (vp_in_iff.mpr (by decide)) dX7_writes_176 (fun H locs hP hD hS => ?_)
      exact rt_v C hr hlk hP hD hS (hF.trans ((if_pos c_6).trans rfl)) dX7_writes_177
    · refine lv_aload_n hx hb dX7_writes_84 rfl (lv_at hl 0 rfl) ?_
      refine gt7_14 C hP in_X7_writes_7 ln_X7_writes_8 dX7_writes_85 ?_
      refine lv_iload_n hx hb dX7_writes_88 rfl (lv_at hl 2 rfl) ?_
      refine lv_aload_n hx hb dX7_writes_89 rfl (lv_at hl 0 rfl) ?_
      refine gt7_14 C hP in_X7_writes_7 ln_X7_writes_8 dX7_writes_90 ?_
      refine lv_iload_n hx hb dX7_writes_93 rfl (lv_at hl 2 rfl) ?_
      refine lv_iconst (v := 1) hx hb dX7_writes_94 (by decide) ?_
      refine lv_isub hx hb dX7_writes_95 ?_
      refine al7_14 C hP (ix_c (n := 64) (by have h := nlek_ (n := 0) c_6 z_t; have h2 := sub1_t (x := x2) (by omega); omega) (by have h := nlek_ (n := 0) c_6 z_t; have h2 := sub1_t (x := x2) (by omega); omega)) (v := (u.2 14 (Int32.toNatClampNeg (x2 - 1)))) rfl dX7_writes_96 ?_
      refine as7_14 C hP hD hS (ix_c (n := 64) (by omega) (by omega)) dX7_writes_97 (fun H locs hP hD hS => ?_)
      refine lv_iinc (v := (x2 + (-1))) (lv' := [(2, .int _), (0, .ref _), (1, .int _)]) hx hb dX7_writes_98 hl (k := 2) rfl rfl (by decide) rfl (fun ls hl => ?_)
      refine lv_goto (tgt := 80) hx hb dX7_writes_101 (by decide) ?_
      exact ih (x2 + (-1)) (ob_a u 14 (Int32.toNatClampNeg x2) (u.2 14 (Int32.toNatClampNeg (x2 - 1))))  _ _ _ (by have h := nlek_ (n := 0) c_6 z_t; have h2 := dec_t (x := x2) (by omega); omega) (by have h := nlek_ (n := 0) c_6 z_t; have h2 := dec_t (x := x2) (by omega); omega) (hF.trans ((if_neg c_6).trans rfl)) hP hD hS (lv_sub hl [1, 2, 0] rfl)
set_option maxHeartbeats 4000000 in
set_option maxRecDepth 100000 in
theorem c_X7_writes (l : Launch) (D : va_G) (cI cZ : ClassId) (ad : Nat → Nat) (u : ob_S) (hbb : vp_in (u.2 24 (Int32.toNatClampNeg 0)) 64) (hL : (u.1 13).toInt ≤ 64) (hw : 0 ≤ ((f_X7_forgets (ob_a u 26 (Int32.toNatClampNeg 0) (u.2 26 (Int32.toNatClampNeg 0) + 1)) (u.2 24 (Int32.toNatClampNeg 0))).1 13).toInt ∧ ((f_X7_forgets (ob_a u 26 (Int32.toNatClampNeg 0) (u.2 26 (Int32.toNatClampNeg 0) + 1)) (u.2 24 (Int32.toNatClampNeg 0))).1 13).toInt ≤ 63) : Ct_v l yX7_writes wsX7_writes ({ frames := 1, cells := 0, slots := 0, locals := 23 } : Room) D (ct_T cI cZ) [.ref (ad 0)] (w_7 cI ad u) (fun u => (w_7 cI ad u)) (f_X7_writes u) := by
  refine en_v (cc := cX7_writes) (maxL := 3) (ret := none) (own := RX7) (by decide +kernel) rfl rfl (Nat.le_of_ble_eq_true rfl) ?_
  intro p e s m args below meth c A ls C hr hlk hP hD hS hl
  have hx := C.1
  have hb := C.2.1
  have hl : lv_has ls 3 [(0, .ref (ad 0))] := hl
  refine lv_aload_n hx hb dX7_writes_0 rfl (lv_at hl 0 rfl) ?_
  refine gt7_26 C hP in_X7_writes_7 ln_X7_writes_1 dX7_writes_1 ?_
  refine lv_iconst (v := 0) hx hb dX7_writes_4 (by decide) ?_
  refine lv_dup2_11 hx hb dX7_writes_5 rfl rfl ?_
  refine al7_26 C hP (vp_in_iff.mpr (by decide)) (v := (u.2 26 (Int32.toNatClampNeg 0))) rfl dX7_writes_6 ?_
  refine lv_iconst (v := 1) hx hb dX7_writes_7 (by decide) ?_
  refine lv_iadd hx hb dX7_writes_8 ?_
  refine as7_26 C hP hD hS (vp_in_iff.mpr (by decide)) dX7_writes_9 (fun H locs hP hD hS => ?_)
  refine lv_aload_n hx hb dX7_writes_10 rfl (lv_at hl 0 rfl) ?_
  refine gt7_26 C hP in_X7_writes_7 ln_X7_writes_1 dX7_writes_11 ?_
  refine lv_iconst (v := 0) hx hb dX7_writes_14 (by decide) ?_
  refine al7_26 C hP (vp_in_iff.mpr (by decide)) (v := ((u.2 26 (Int32.toNatClampNeg 0)) + 1)) rfl dX7_writes_15 ?_
  refine lv_aload_n hx hb dX7_writes_16 rfl (lv_at hl 0 rfl) ?_
  refine gt7_18 C hP in_X7_writes_7 ln_X7_writes_2 (v := (u.1 18)) rfl dX7_writes_17 ?_
  refine jn_i (g := fun x => F0 m 40 ls (.int x :: [.int ((u.2 26 (Int32.toNatClampNeg 0)) + 1)])) ((if (u.1 18) = 0 then 4 else (if (u.1 18) = 1 then 2 else 1))) (fun y_1 ey_1 => ?_) (fun J_1 => ?_)
  · refine lv_icmp_ge (tgt := 44) hx hb dX7_writes_40 (by decide) (fun c_4 => ?_) (fun c_4 => ?_)
    · refine lv_aload_n hx hb dX7_writes_44 rfl (lv_at hl 0 rfl) ?_
      refine gt7_24 C hP in_X7_writes_7 ln_X7_writes_3 dX7_writes_45 ?_
      refine lv_iconst (v := 0) hx hb dX7_writes_48 (by decide) ?_
      refine al7_24 C hP (vp_in_iff.mpr (by decide)) (v := (u.2 24 (Int32.toNatClampNeg 0))) rfl dX7_writes_49 ?_
      refine lv_istore_n (lv' := [(1, .int _), (0, .ref _)]) hx hb dX7_writes_50 rfl hl (by decide) rfl (fun ls hl => ?_)
      refine lv_aload_n hx hb dX7_writes_51 rfl (lv_at hl 1 rfl) ?_
      refine lv_iload_n hx hb dX7_writes_52 rfl (lv_at hl 0 rfl) ?_
      refine kv_v C (c_X7_forgets l D cI cZ ad (ob_a u 26 (Int32.toNatClampNeg 0) ((u.2 26 (Int32.toNatClampNeg 0)) + 1)) (u.2 24 (Int32.toNatClampNeg 0)) hL) (cwV 1 C.2.2.2.2.1 gX7_writes_X7_forgets rfl rfl rfl hdX7_forgets ⟨Nat.le_of_ble_eq_true rfl, Nat.le_of_ble_eq_true rfl⟩) (ci := 7) (q0 := 0) rfl rfl rfl hP hD hS (sp_self (fun u => (w_7 cI ad u)) 9 (fun _ => rfl)) rfl hl.1 rfl (Nat.le_of_ble_eq_true rfl) dX7_writes_53 ⟨Nat.zero_le _, Nat.zero_le _⟩ (fun H locs hP hD hS => ?_)
      refine lv_aload_n hx hb dX7_writes_56 rfl (lv_at hl 1 rfl) ?_
      refine gt7_9 C hP in_X7_writes_7 ln_X7_writes_4 dX7_writes_57 ?_
      refine lv_iload_n hx hb dX7_writes_60 rfl (lv_at hl 0 rfl) ?_
      refine lv_aload_n hx hb dX7_writes_61 rfl (lv_at hl 1 rfl) ?_
      refine gt7_25 C hP in_X7_writes_7 ln_X7_writes_5 dX7_writes_62 ?_
      refine lv_iconst (v := 0) hx hb dX7_writes_65 (by decide) ?_
      refine al7_25 C hP (vp_in_iff.mpr (by decide)) (v := ((f_X7_forgets (ob_a u 26 (Int32.toNatClampNeg 0) ((u.2 26 (Int32.toNatClampNeg 0)) + 1)) (u.2 24 (Int32.toNatClampNeg 0))).2 25 (Int32.toNatClampNeg 0))) rfl dX7_writes_66 ?_
      refine as7_9 C hP hD hS hbb dX7_writes_67 (fun H locs hP hD hS => ?_)
      refine lv_aload_n hx hb dX7_writes_68 rfl (lv_at hl 1 rfl) ?_
      refine gt7_10 C hP in_X7_writes_7 ln_X7_writes_6 dX7_writes_69 ?_
      refine lv_iload_n hx hb dX7_writes_72 rfl (lv_at hl 0 rfl) ?_
      refine lv_iconst (v := 0) hx hb dX7_writes_73 (by decide) ?_
      refine as7_10 C hP hD hS hbb dX7_writes_74 (fun H locs hP hD hS => ?_)
      refine lv_aload_n hx hb dX7_writes_75 rfl (lv_at hl 1 rfl) ?_
      refine gt7_13 C hP in_X7_writes_7 ln_X7_writes_7 (v := ((f_X7_forgets (ob_a u 26 (Int32.toNatClampNeg 0) ((u.2 26 (Int32.toNatClampNeg 0)) + 1)) (u.2 24 (Int32.toNatClampNeg 0))).1 13)) rfl dX7_writes_76 ?_
      refine lv_istore_n (lv' := [(2, .int _), (1, .int _), (0, .ref _)]) hx hb dX7_writes_79 rfl hl (by decide) rfl (fun ls hl => ?_)
      subst ey_1
      exact lp_X7_writes_80 C hr hlk  64 _ _ _ _ _ (show _ < _ from Int.lt_of_le_of_lt hw.2 (by decide)) hw ((if_pos c_4).trans rfl) hP hD hS (lv_sub hl [2, 1, 0] rfl)
    · subst ey_1
      exact rt_v C hr hlk hP hD hS ((if_neg c_4).trans rfl) dX7_writes_43
  · refine lv_if_ne (tgt := 27) hx hb dX7_writes_20 (by decide) (fun c_2 => ?_) (fun c_2 => ?_)
    · refine lv_aload_n hx hb dX7_writes_27 rfl (lv_at hl 0 rfl) ?_
      refine gt7_18 C hP in_X7_writes_7 ln_X7_writes_2 (v := (u.1 18)) rfl dX7_writes_28 ?_
      refine lv_iconst (v := 1) hx hb dX7_writes_31 (by decide) ?_
      refine lv_icmp_ne (tgt := 39) hx hb dX7_writes_32 (by decide) (fun c_3 => ?_) (fun c_3 => ?_)
      · refine lv_iconst (v := 1) hx hb dX7_writes_39 (by decide) ?_
        exact J_1 _ ((if_neg c_2).trans ((if_neg c_3).trans rfl)).symm
      · refine lv_iconst (v := 2) hx hb dX7_writes_35 (by decide) ?_
        refine lv_goto (tgt := 40) hx hb dX7_writes_36 (by decide) ?_
        exact J_1 _ ((if_neg c_2).trans ((if_pos c_3).trans rfl)).symm
    · refine lv_iconst (v := 4) hx hb dX7_writes_23 (by decide) ?_
      refine lv_goto (tgt := 40) hx hb dX7_writes_24 (by decide) ?_
      exact J_1 _ ((if_pos c_2).trans rfl).symm
theorem ln_X7_oneTick_1 : Cond.fieldLink RX7 65 "BlockCardModel" "ticks" "I" ∈ wsX7_oneTick := List.mem_of_getElem? (i := 1) rfl
theorem in_X7_oneTick_7 : ∀ w ∈ wsX70, w ∈ wsX7_oneTick := fun w h => List.mem_cons_of_mem _ (List.mem_append_right _ h)
theorem ln_X7_oneTick_2 : Cond.fieldLink RX7 78 "BlockCardModel" "isOn" "Z" ∈ wsX7_oneTick := List.mem_of_getElem? (i := 2) rfl
theorem ln_X7_oneTick_3 : Cond.fieldLink RX7 85 "BlockCardModel" "state" "I" ∈ wsX7_oneTick := List.mem_of_getElem? (i := 3) rfl
theorem ln_X7_oneTick_4 : Cond.fieldLink RX7 106 "BlockCardModel" "laterMany" "I" ∈ wsX7_oneTick := List.mem_of_getElem? (i := 4) rfl
theorem ln_X7_oneTick_5 : Cond.fieldLink RX7 109 "BlockCardModel" "eraseMany" "I" ∈ wsX7_oneTick := List.mem_of_getElem? (i := 5) rfl
theorem ln_X7_oneTick_6 : Cond.fieldLink RX7 112 "BlockCardModel" "eraseTicks" "I" ∈ wsX7_oneTick := List.mem_of_getElem? (i := 6) rfl
theorem ln_X7_oneTick_7 : Cond.fieldLink RX7 141 "BlockCardModel" "eraseFrom" "I" ∈ wsX7_oneTick := List.mem_of_getElem? (i := 7) rfl
set_option maxHeartbeats 4000000 in
set_option maxRecDepth 100000 in
theorem c_X7_oneTick (l : Launch) (D : va_G) (cI cZ : ClassId) (ad : Nat → Nat) (u : ob_S) (hT : pm_T u) : Ct_v l yX7_oneTick wsX7_oneTick ({ frames := 3, cells := 0, slots := 0, locals := 68 } : Room) D (ct_T cI cZ) [.ref (ad 0)] (w_7 cI ad u) (fun u => (w_7 cI ad u)) (f_X7_oneTick u) := by
  refine en_v (cc := cX7_oneTick) (maxL := 1) (ret := none) (own := RX7) (by decide +kernel) rfl rfl (Nat.le_of_ble_eq_true rfl) ?_
  intro p e s m args below meth c A ls C hr hlk hP hD hS hl
  have hx := C.1
  have hb := C.2.1
  have hl : lv_has ls 1 [(0, .ref (ad 0))] := hl
  refine lv_aload_n hx hb dX7_oneTick_0 rfl (lv_at hl 0 rfl) ?_
  refine lv_dup hx hb dX7_oneTick_1 rfl ?_
  refine gt7_7 C hP in_X7_oneTick_7 ln_X7_oneTick_1 (v := (u.1 7)) rfl dX7_oneTick_2 ?_
  refine lv_iconst (v := 1) hx hb dX7_oneTick_5 (by decide) ?_
  refine lv_iadd hx hb dX7_oneTick_6 ?_
  refine pt7_7 C hP hD hS in_X7_oneTick_7 ln_X7_oneTick_1 dX7_oneTick_7 (fun H locs hP hD hS => ?_)
  refine lv_aload_n hx hb dX7_oneTick_10 rfl (lv_at hl 0 rfl) ?_
  refine gt7_15 C hP in_X7_oneTick_7 ln_X7_oneTick_2 (v := (u.1 15)) rfl dX7_oneTick_11 ?_
  refine lv_if_eq (tgt := 35) hx hb dX7_oneTick_14 (by decide) (fun c_1 => ?_) (fun c_1 => ?_)
  · exact rt_v C hr hlk hP hD hS ((if_pos c_1).trans rfl) dX7_oneTick_35
  · refine lv_aload_n hx hb dX7_oneTick_17 rfl (lv_at hl 0 rfl) ?_
    refine gt7_16 C hP in_X7_oneTick_7 ln_X7_oneTick_3 (v := (u.1 16)) rfl dX7_oneTick_18 ?_
    refine lv_bipush (v := 6) hx hb dX7_oneTick_21 (by decide) ?_
    refine lv_icmp_eq (tgt := 36) hx hb dX7_oneTick_23 (by decide) (fun c_2 => ?_) (fun c_2 => ?_)
    · refine lv_aload_n hx hb dX7_oneTick_36 rfl (lv_at hl 0 rfl) ?_
      refine gt7_23 C hP in_X7_oneTick_7 ln_X7_oneTick_4 (v := (u.1 23)) rfl dX7_oneTick_37 ?_
      refine lv_if_le (tgt := 50) hx hb dX7_oneTick_40 (by decide) (fun c_3 => ?_) (fun c_3 => ?_)
      · refine lv_aload_n hx hb dX7_oneTick_50 rfl (lv_at hl 0 rfl) ?_
        refine gt7_28 C hP in_X7_oneTick_7 ln_X7_oneTick_5 (v := (u.1 28)) rfl dX7_oneTick_51 ?_
        refine lv_if_le (tgt := 109) hx hb dX7_oneTick_54 (by decide) (fun c_4 => ?_) (fun c_4 => ?_)
        · refine lv_aload_n hx hb dX7_oneTick_109 rfl (lv_at hl 0 rfl) ?_
          refine lv_aload_n hx hb dX7_oneTick_110 rfl (lv_at hl 0 rfl) ?_
          refine gt7_16 C hP in_X7_oneTick_7 ln_X7_oneTick_3 (v := (u.1 16)) rfl dX7_oneTick_111 ?_
          refine lv_bipush (v := 7) hx hb dX7_oneTick_114 (by decide) ?_
          refine jn_i (g := fun x => F0 m 141 ls (.int x :: [.ref (ad 0)])) ((if (u.1 16) = 7 then (if (u.1 23) = 0 then (if (u.1 28) = 0 then 4 else (u.1 16)) else (u.1 16)) else (u.1 16))) (fun y_5 ey_5 => ?_) (fun J_5 => ?_)
          · refine pt7_16 C hP hD hS in_X7_oneTick_7 ln_X7_oneTick_3 dX7_oneTick_141 (fun H locs hP hD hS => ?_)
            subst ey_5
            exact rt_v C hr hlk hP hD hS ((if_neg c_1).trans ((if_pos c_2).trans ((if_pos c_3).trans ((if_pos c_4).trans rfl)))) dX7_oneTick_144
          · refine lv_icmp_ne (tgt := 137) hx hb dX7_oneTick_116 (by decide) (fun c_6 => ?_) (fun c_6 => ?_)
            · refine lv_aload_n hx hb dX7_oneTick_137 rfl (lv_at hl 0 rfl) ?_
              refine gt7_16 C hP in_X7_oneTick_7 ln_X7_oneTick_3 (v := (u.1 16)) rfl dX7_oneTick_138 ?_
              exact J_5 _ ((if_neg c_6).trans rfl).symm
            · refine lv_aload_n hx hb dX7_oneTick_119 rfl (lv_at hl 0 rfl) ?_
              refine gt7_23 C hP in_X7_oneTick_7 ln_X7_oneTick_4 (v := (u.1 23)) rfl dX7_oneTick_120 ?_
              refine lv_if_ne (tgt := 137) hx hb dX7_oneTick_123 (by decide) (fun c_7 => ?_) (fun c_7 => ?_)
              · refine lv_aload_n hx hb dX7_oneTick_137 rfl (lv_at hl 0 rfl) ?_
                refine gt7_16 C hP in_X7_oneTick_7 ln_X7_oneTick_3 (v := (u.1 16)) rfl dX7_oneTick_138 ?_
                exact J_5 _ ((if_pos c_6).trans ((if_neg c_7).trans rfl)).symm
              · refine lv_aload_n hx hb dX7_oneTick_126 rfl (lv_at hl 0 rfl) ?_
                refine gt7_28 C hP in_X7_oneTick_7 ln_X7_oneTick_5 (v := (u.1 28)) rfl dX7_oneTick_127 ?_
                refine lv_if_ne (tgt := 137) hx hb dX7_oneTick_130 (by decide) (fun c_8 => ?_) (fun c_8 => ?_)
                · refine lv_aload_n hx hb dX7_oneTick_137 rfl (lv_at hl 0 rfl) ?_
                  refine gt7_16 C hP in_X7_oneTick_7 ln_X7_oneTick_3 (v := (u.1 16)) rfl dX7_oneTick_138 ?_
                  exact J_5 _ ((if_pos c_6).trans ((if_pos c_7).trans ((if_neg c_8).trans rfl))).symm
                · refine lv_iconst (v := 4) hx hb dX7_oneTick_133 (by decide) ?_
                  refine lv_goto (tgt := 141) hx hb dX7_oneTick_134 (by decide) ?_
                  exact J_5 _ ((if_pos c_6).trans ((if_pos c_7).trans ((if_pos c_8).trans rfl))).symm
        · refine lv_aload_n hx hb dX7_oneTick_57 rfl (lv_at hl 0 rfl) ?_
          refine lv_dup hx hb dX7_oneTick_58 rfl ?_
          refine gt7_29 C hP in_X7_oneTick_7 ln_X7_oneTick_6 (v := (u.1 29)) rfl dX7_oneTick_59 ?_
          refine lv_iconst (v := 1) hx hb dX7_oneTick_62 (by decide) ?_
          refine lv_iadd hx hb dX7_oneTick_63 ?_
          refine pt7_29 C hP hD hS in_X7_oneTick_7 ln_X7_oneTick_6 dX7_oneTick_64 (fun H locs hP hD hS => ?_)
          refine lv_aload_n hx hb dX7_oneTick_67 rfl (lv_at hl 0 rfl) ?_
          refine gt7_29 C hP in_X7_oneTick_7 ln_X7_oneTick_6 (v := ((u.1 29) + 1)) rfl dX7_oneTick_68 ?_
          refine lv_iconst (v := 2) hx hb dX7_oneTick_71 (by decide) ?_
          refine lv_icmp_ne (tgt := 109) hx hb dX7_oneTick_72 (by decide) (fun c_9 => ?_) (fun c_9 => ?_)
          · refine lv_aload_n hx hb dX7_oneTick_109 rfl (lv_at hl 0 rfl) ?_
            refine lv_aload_n hx hb dX7_oneTick_110 rfl (lv_at hl 0 rfl) ?_
            refine gt7_16 C hP in_X7_oneTick_7 ln_X7_oneTick_3 (v := (u.1 16)) rfl dX7_oneTick_111 ?_
            refine lv_bipush (v := 7) hx hb dX7_oneTick_114 (by decide) ?_
            refine jn_i (g := fun x => F0 m 141 ls (.int x :: [.ref (ad 0)])) ((if (u.1 16) = 7 then (if (u.1 23) = 0 then (if (u.1 28) = 0 then 4 else (u.1 16)) else (u.1 16)) else (u.1 16))) (fun y_10 ey_10 => ?_) (fun J_10 => ?_)
            · refine pt7_16 C hP hD hS in_X7_oneTick_7 ln_X7_oneTick_3 dX7_oneTick_141 (fun H locs hP hD hS => ?_)
              subst ey_10
              exact rt_v C hr hlk hP hD hS ((if_neg c_1).trans ((if_pos c_2).trans ((if_pos c_3).trans ((if_neg c_4).trans ((if_neg c_9).trans rfl))))) dX7_oneTick_144
            · refine lv_icmp_ne (tgt := 137) hx hb dX7_oneTick_116 (by decide) (fun c_11 => ?_) (fun c_11 => ?_)
              · refine lv_aload_n hx hb dX7_oneTick_137 rfl (lv_at hl 0 rfl) ?_
                refine gt7_16 C hP in_X7_oneTick_7 ln_X7_oneTick_3 (v := (u.1 16)) rfl dX7_oneTick_138 ?_
                exact J_10 _ ((if_neg c_11).trans rfl).symm
              · refine lv_aload_n hx hb dX7_oneTick_119 rfl (lv_at hl 0 rfl) ?_
                refine gt7_23 C hP in_X7_oneTick_7 ln_X7_oneTick_4 (v := (u.1 23)) rfl dX7_oneTick_120 ?_
                refine lv_if_ne (tgt := 137) hx hb dX7_oneTick_123 (by decide) (fun c_12 => ?_) (fun c_12 => ?_)
                · refine lv_aload_n hx hb dX7_oneTick_137 rfl (lv_at hl 0 rfl) ?_
                  refine gt7_16 C hP in_X7_oneTick_7 ln_X7_oneTick_3 (v := (u.1 16)) rfl dX7_oneTick_138 ?_
                  exact J_10 _ ((if_pos c_11).trans ((if_neg c_12).trans rfl)).symm
                · refine lv_aload_n hx hb dX7_oneTick_126 rfl (lv_at hl 0 rfl) ?_
                  refine gt7_28 C hP in_X7_oneTick_7 ln_X7_oneTick_5 (v := (u.1 28)) rfl dX7_oneTick_127 ?_
                  refine lv_if_ne (tgt := 137) hx hb dX7_oneTick_130 (by decide) (fun c_13 => ?_) (fun c_13 => ?_)
                  · refine lv_aload_n hx hb dX7_oneTick_137 rfl (lv_at hl 0 rfl) ?_
                    refine gt7_16 C hP in_X7_oneTick_7 ln_X7_oneTick_3 (v := (u.1 16)) rfl dX7_oneTick_138 ?_
                    exact J_10 _ ((if_pos c_11).trans ((if_pos c_12).trans ((if_neg c_13).trans rfl))).symm
                  · refine lv_iconst (v := 4) hx hb dX7_oneTick_133 (by decide) ?_
                    refine lv_goto (tgt := 141) hx hb dX7_oneTick_134 (by decide) ?_
                    exact J_10 _ ((if_pos c_11).trans ((if_pos c_12).trans ((if_pos c_13).trans rfl))).symm
          · refine lv_aload_n hx hb dX7_oneTick_75 rfl (lv_at hl 0 rfl) ?_
            refine lv_aload_n hx hb dX7_oneTick_76 rfl (lv_at hl 0 rfl) ?_
            refine gt7_27 C hP in_X7_oneTick_7 ln_X7_oneTick_7 (v := (u.1 27)) rfl dX7_oneTick_77 ?_
            refine lv_iconst (v := 0) hx hb dX7_oneTick_80 (by decide) ?_
            refine kv_v C (c_X7_groupEmpties l D cI cZ ad (ob_i (ob_i u 7 ((u.1 7) + 1)) 29 ((u.1 29) + 1)) (u.1 27) 0 hT.2.2.2 hT.2.2.1 hT.2.1) (cwV 2 C.2.2.2.2.1 gX7_oneTick_X7_groupEmpties rfl rfl rfl hdX7_groupEmpties ⟨Nat.le_of_ble_eq_true rfl, Nat.le_of_ble_eq_true rfl⟩) (ci := 7) (q0 := 0) rfl rfl rfl hP hD hS (sp_self (fun u => (w_7 cI ad u)) 9 (fun _ => rfl)) rfl hl.1 rfl (Nat.le_of_ble_eq_true rfl) dX7_oneTick_81 ⟨Nat.zero_le _, Nat.zero_le _⟩ (fun H locs hP hD hS => ?_)
            refine lv_aload_n hx hb dX7_oneTick_84 rfl (lv_at hl 0 rfl) ?_
            refine lv_dup hx hb dX7_oneTick_85 rfl ?_
            refine gt7_27 C hP in_X7_oneTick_7 ln_X7_oneTick_7 (v := ((f_X7_groupEmpties (ob_i (ob_i u 7 ((u.1 7) + 1)) 29 ((u.1 29) + 1)) (u.1 27) 0).1 27)) rfl dX7_oneTick_86 ?_
            refine lv_iconst (v := 1) hx hb dX7_oneTick_89 (by decide) ?_
            refine lv_iadd hx hb dX7_oneTick_90 ?_
            refine pt7_27 C hP hD hS in_X7_oneTick_7 ln_X7_oneTick_7 dX7_oneTick_91 (fun H locs hP hD hS => ?_)
            refine lv_aload_n hx hb dX7_oneTick_94 rfl (lv_at hl 0 rfl) ?_
            refine lv_dup hx hb dX7_oneTick_95 rfl ?_
            refine gt7_28 C hP in_X7_oneTick_7 ln_X7_oneTick_5 (v := ((f_X7_groupEmpties (ob_i (ob_i u 7 ((u.1 7) + 1)) 29 ((u.1 29) + 1)) (u.1 27) 0).1 28)) rfl dX7_oneTick_96 ?_
            refine lv_iconst (v := 1) hx hb dX7_oneTick_99 (by decide) ?_
            refine lv_isub hx hb dX7_oneTick_100 ?_
            refine pt7_28 C hP hD hS in_X7_oneTick_7 ln_X7_oneTick_5 dX7_oneTick_101 (fun H locs hP hD hS => ?_)
            refine lv_aload_n hx hb dX7_oneTick_104 rfl (lv_at hl 0 rfl) ?_
            refine lv_iconst (v := 0) hx hb dX7_oneTick_105 (by decide) ?_
            refine pt7_29 C hP hD hS in_X7_oneTick_7 ln_X7_oneTick_6 dX7_oneTick_106 (fun H locs hP hD hS => ?_)
            refine lv_aload_n hx hb dX7_oneTick_109 rfl (lv_at hl 0 rfl) ?_
            refine lv_aload_n hx hb dX7_oneTick_110 rfl (lv_at hl 0 rfl) ?_
            refine gt7_16 C hP in_X7_oneTick_7 ln_X7_oneTick_3 (v := ((f_X7_groupEmpties (ob_i (ob_i u 7 ((u.1 7) + 1)) 29 ((u.1 29) + 1)) (u.1 27) 0).1 16)) rfl dX7_oneTick_111 ?_
            refine lv_bipush (v := 7) hx hb dX7_oneTick_114 (by decide) ?_
            refine jn_i (g := fun x => F0 m 141 ls (.int x :: [.ref (ad 0)])) ((if ((f_X7_groupEmpties (ob_i (ob_i u 7 ((u.1 7) + 1)) 29 ((u.1 29) + 1)) (u.1 27) 0).1 16) = 7 then (if ((f_X7_groupEmpties (ob_i (ob_i u 7 ((u.1 7) + 1)) 29 ((u.1 29) + 1)) (u.1 27) 0).1 23) = 0 then (if (((f_X7_groupEmpties (ob_i (ob_i u 7 ((u.1 7) + 1)) 29 ((u.1 29) + 1)) (u.1 27) 0).1 28) - 1) = 0 then 4 else ((f_X7_groupEmpties (ob_i (ob_i u 7 ((u.1 7) + 1)) 29 ((u.1 29) + 1)) (u.1 27) 0).1 16)) else ((f_X7_groupEmpties (ob_i (ob_i u 7 ((u.1 7) + 1)) 29 ((u.1 29) + 1)) (u.1 27) 0).1 16)) else ((f_X7_groupEmpties (ob_i (ob_i u 7 ((u.1 7) + 1)) 29 ((u.1 29) + 1)) (u.1 27) 0).1 16))) (fun y_15 ey_15 => ?_) (fun J_15 => ?_)
            · refine pt7_16 C hP hD hS in_X7_oneTick_7 ln_X7_oneTick_3 dX7_oneTick_141 (fun H locs hP hD hS => ?_)
              subst ey_15
              exact rt_v C hr hlk hP hD hS ((if_neg c_1).trans ((if_pos c_2).trans ((if_pos c_3).trans ((if_neg c_4).trans ((if_pos c_9).trans rfl))))) dX7_oneTick_144
            · refine lv_icmp_ne (tgt := 137) hx hb dX7_oneTick_116 (by decide) (fun c_16 => ?_) (fun c_16 => ?_)
              · refine lv_aload_n hx hb dX7_oneTick_137 rfl (lv_at hl 0 rfl) ?_
                refine gt7_16 C hP in_X7_oneTick_7 ln_X7_oneTick_3 (v := ((f_X7_groupEmpties (ob_i (ob_i u 7 ((u.1 7) + 1)) 29 ((u.1 29) + 1)) (u.1 27) 0).1 16)) rfl dX7_oneTick_138 ?_
                exact J_15 _ ((if_neg c_16).trans rfl).symm
              · refine lv_aload_n hx hb dX7_oneTick_119 rfl (lv_at hl 0 rfl) ?_
                refine gt7_23 C hP in_X7_oneTick_7 ln_X7_oneTick_4 (v := ((f_X7_groupEmpties (ob_i (ob_i u 7 ((u.1 7) + 1)) 29 ((u.1 29) + 1)) (u.1 27) 0).1 23)) rfl dX7_oneTick_120 ?_
                refine lv_if_ne (tgt := 137) hx hb dX7_oneTick_123 (by decide) (fun c_17 => ?_) (fun c_17 => ?_)
                · refine lv_aload_n hx hb dX7_oneTick_137 rfl (lv_at hl 0 rfl) ?_
                  refine gt7_16 C hP in_X7_oneTick_7 ln_X7_oneTick_3 (v := ((f_X7_groupEmpties (ob_i (ob_i u 7 ((u.1 7) + 1)) 29 ((u.1 29) + 1)) (u.1 27) 0).1 16)) rfl dX7_oneTick_138 ?_
                  exact J_15 _ ((if_pos c_16).trans ((if_neg c_17).trans rfl)).symm
                · refine lv_aload_n hx hb dX7_oneTick_126 rfl (lv_at hl 0 rfl) ?_
                  refine gt7_28 C hP in_X7_oneTick_7 ln_X7_oneTick_5 (v := (((f_X7_groupEmpties (ob_i (ob_i u 7 ((u.1 7) + 1)) 29 ((u.1 29) + 1)) (u.1 27) 0).1 28) - 1)) rfl dX7_oneTick_127 ?_
                  refine lv_if_ne (tgt := 137) hx hb dX7_oneTick_130 (by decide) (fun c_18 => ?_) (fun c_18 => ?_)
                  · refine lv_aload_n hx hb dX7_oneTick_137 rfl (lv_at hl 0 rfl) ?_
                    refine gt7_16 C hP in_X7_oneTick_7 ln_X7_oneTick_3 (v := ((f_X7_groupEmpties (ob_i (ob_i u 7 ((u.1 7) + 1)) 29 ((u.1 29) + 1)) (u.1 27) 0).1 16)) rfl dX7_oneTick_138 ?_
                    exact J_15 _ ((if_pos c_16).trans ((if_pos c_17).trans ((if_neg c_18).trans rfl))).symm
                  · refine lv_iconst (v := 4) hx hb dX7_oneTick_133 (by decide) ?_
                    refine lv_goto (tgt := 141) hx hb dX7_oneTick_134 (by decide) ?_
                    exact J_15 _ ((if_pos c_16).trans ((if_pos c_17).trans ((if_pos c_18).trans rfl))).symm
      · refine lv_aload_n hx hb dX7_oneTick_43 rfl (lv_at hl 0 rfl) ?_
        refine kv_v C (c_X7_writes l D cI cZ ad (ob_i u 7 ((u.1 7) + 1))  (hT.1 c_3).1 hT.2.1 (hT.1 c_3).2) (cwV 0 C.2.2.2.2.1 gX7_oneTick_X7_writes rfl rfl rfl hdX7_writes ⟨Nat.le_of_ble_eq_true rfl, Nat.le_of_ble_eq_true rfl⟩) (ci := 7) (q0 := 0) rfl rfl rfl hP hD hS (sp_self (fun u => (w_7 cI ad u)) 9 (fun _ => rfl)) rfl hl.1 rfl (Nat.le_of_ble_eq_true rfl) dX7_oneTick_44 ⟨Nat.zero_le _, Nat.zero_le _⟩ (fun H locs hP hD hS => ?_)
        refine lv_goto (tgt := 109) hx hb dX7_oneTick_47 (by decide) ?_
        refine lv_aload_n hx hb dX7_oneTick_109 rfl (lv_at hl 0 rfl) ?_
        refine lv_aload_n hx hb dX7_oneTick_110 rfl (lv_at hl 0 rfl) ?_
        refine gt7_16 C hP in_X7_oneTick_7 ln_X7_oneTick_3 (v := ((f_X7_writes (ob_i u 7 ((u.1 7) + 1))).1 16)) rfl dX7_oneTick_111 ?_
        refine lv_bipush (v := 7) hx hb dX7_oneTick_114 (by decide) ?_
        refine jn_i (g := fun x => F0 m 141 ls (.int x :: [.ref (ad 0)])) ((if ((f_X7_writes (ob_i u 7 ((u.1 7) + 1))).1 16) = 7 then (if ((f_X7_writes (ob_i u 7 ((u.1 7) + 1))).1 23) = 0 then (if ((f_X7_writes (ob_i u 7 ((u.1 7) + 1))).1 28) = 0 then 4 else ((f_X7_writes (ob_i u 7 ((u.1 7) + 1))).1 16)) else ((f_X7_writes (ob_i u 7 ((u.1 7) + 1))).1 16)) else ((f_X7_writes (ob_i u 7 ((u.1 7) + 1))).1 16))) (fun y_20 ey_20 => ?_) (fun J_20 => ?_)
        · refine pt7_16 C hP hD hS in_X7_oneTick_7 ln_X7_oneTick_3 dX7_oneTick_141 (fun H locs hP hD hS => ?_)
          subst ey_20
          exact rt_v C hr hlk hP hD hS ((if_neg c_1).trans ((if_pos c_2).trans ((if_neg c_3).trans rfl))) dX7_oneTick_144
        · refine lv_icmp_ne (tgt := 137) hx hb dX7_oneTick_116 (by decide) (fun c_21 => ?_) (fun c_21 => ?_)
          · refine lv_aload_n hx hb dX7_oneTick_137 rfl (lv_at hl 0 rfl) ?_
            refine gt7_16 C hP in_X7_oneTick_7 ln_X7_oneTick_3 (v := ((f_X7_writes (ob_i u 7 ((u.1 7) + 1))).1 16)) rfl dX7_oneTick_138 ?_
            exact J_20 _ ((if_neg c_21).trans rfl).symm
          · refine lv_aload_n hx hb dX7_oneTick_119 rfl (lv_at hl 0 rfl) ?_
            refine gt7_23 C hP in_X7_oneTick_7 ln_X7_oneTick_4 (v := ((f_X7_writes (ob_i u 7 ((u.1 7) + 1))).1 23)) rfl dX7_oneTick_120 ?_
            refine lv_if_ne (tgt := 137) hx hb dX7_oneTick_123 (by decide) (fun c_22 => ?_) (fun c_22 => ?_)
            · refine lv_aload_n hx hb dX7_oneTick_137 rfl (lv_at hl 0 rfl) ?_
              refine gt7_16 C hP in_X7_oneTick_7 ln_X7_oneTick_3 (v := ((f_X7_writes (ob_i u 7 ((u.1 7) + 1))).1 16)) rfl dX7_oneTick_138 ?_
              exact J_20 _ ((if_pos c_21).trans ((if_neg c_22).trans rfl)).symm
            · refine lv_aload_n hx hb dX7_oneTick_126 rfl (lv_at hl 0 rfl) ?_
              refine gt7_28 C hP in_X7_oneTick_7 ln_X7_oneTick_5 (v := ((f_X7_writes (ob_i u 7 ((u.1 7) + 1))).1 28)) rfl dX7_oneTick_127 ?_
              refine lv_if_ne (tgt := 137) hx hb dX7_oneTick_130 (by decide) (fun c_23 => ?_) (fun c_23 => ?_)
              · refine lv_aload_n hx hb dX7_oneTick_137 rfl (lv_at hl 0 rfl) ?_
                refine gt7_16 C hP in_X7_oneTick_7 ln_X7_oneTick_3 (v := ((f_X7_writes (ob_i u 7 ((u.1 7) + 1))).1 16)) rfl dX7_oneTick_138 ?_
                exact J_20 _ ((if_pos c_21).trans ((if_pos c_22).trans ((if_neg c_23).trans rfl))).symm
              · refine lv_iconst (v := 4) hx hb dX7_oneTick_133 (by decide) ?_
                refine lv_goto (tgt := 141) hx hb dX7_oneTick_134 (by decide) ?_
                exact J_20 _ ((if_pos c_21).trans ((if_pos c_22).trans ((if_pos c_23).trans rfl))).symm
    · refine lv_aload_n hx hb dX7_oneTick_26 rfl (lv_at hl 0 rfl) ?_
      refine gt7_16 C hP in_X7_oneTick_7 ln_X7_oneTick_3 (v := (u.1 16)) rfl dX7_oneTick_27 ?_
      refine lv_bipush (v := 7) hx hb dX7_oneTick_30 (by decide) ?_
      refine lv_icmp_eq (tgt := 36) hx hb dX7_oneTick_32 (by decide) (fun c_24 => ?_) (fun c_24 => ?_)
      · refine lv_aload_n hx hb dX7_oneTick_36 rfl (lv_at hl 0 rfl) ?_
        refine gt7_23 C hP in_X7_oneTick_7 ln_X7_oneTick_4 (v := (u.1 23)) rfl dX7_oneTick_37 ?_
        refine lv_if_le (tgt := 50) hx hb dX7_oneTick_40 (by decide) (fun c_25 => ?_) (fun c_25 => ?_)
        · refine lv_aload_n hx hb dX7_oneTick_50 rfl (lv_at hl 0 rfl) ?_
          refine gt7_28 C hP in_X7_oneTick_7 ln_X7_oneTick_5 (v := (u.1 28)) rfl dX7_oneTick_51 ?_
          refine lv_if_le (tgt := 109) hx hb dX7_oneTick_54 (by decide) (fun c_26 => ?_) (fun c_26 => ?_)
          · refine lv_aload_n hx hb dX7_oneTick_109 rfl (lv_at hl 0 rfl) ?_
            refine lv_aload_n hx hb dX7_oneTick_110 rfl (lv_at hl 0 rfl) ?_
            refine gt7_16 C hP in_X7_oneTick_7 ln_X7_oneTick_3 (v := (u.1 16)) rfl dX7_oneTick_111 ?_
            refine lv_bipush (v := 7) hx hb dX7_oneTick_114 (by decide) ?_
            refine jn_i (g := fun x => F0 m 141 ls (.int x :: [.ref (ad 0)])) ((if (u.1 16) = 7 then (if (u.1 23) = 0 then (if (u.1 28) = 0 then 4 else (u.1 16)) else (u.1 16)) else (u.1 16))) (fun y_27 ey_27 => ?_) (fun J_27 => ?_)
            · refine pt7_16 C hP hD hS in_X7_oneTick_7 ln_X7_oneTick_3 dX7_oneTick_141 (fun H locs hP hD hS => ?_)
              subst ey_27
              exact rt_v C hr hlk hP hD hS ((if_neg c_1).trans ((if_neg c_2).trans ((if_pos c_24).trans ((if_pos c_25).trans ((if_pos c_26).trans rfl))))) dX7_oneTick_144
            · refine lv_icmp_ne (tgt := 137) hx hb dX7_oneTick_116 (by decide) (fun c_28 => ?_) (fun c_28 => ?_)
              · refine lv_aload_n hx hb dX7_oneTick_137 rfl (lv_at hl 0 rfl) ?_
                refine gt7_16 C hP in_X7_oneTick_7 ln_X7_oneTick_3 (v := (u.1 16)) rfl dX7_oneTick_138 ?_
                exact J_27 _ ((if_neg c_28).trans rfl).symm
              · refine lv_aload_n hx hb dX7_oneTick_119 rfl (lv_at hl 0 rfl) ?_
                refine gt7_23 C hP in_X7_oneTick_7 ln_X7_oneTick_4 (v := (u.1 23)) rfl dX7_oneTick_120 ?_
                refine lv_if_ne (tgt := 137) hx hb dX7_oneTick_123 (by decide) (fun c_29 => ?_) (fun c_29 => ?_)
                · refine lv_aload_n hx hb dX7_oneTick_137 rfl (lv_at hl 0 rfl) ?_
                  refine gt7_16 C hP in_X7_oneTick_7 ln_X7_oneTick_3 (v := (u.1 16)) rfl dX7_oneTick_138 ?_
                  exact J_27 _ ((if_pos c_28).trans ((if_neg c_29).trans rfl)).symm
                · refine lv_aload_n hx hb dX7_oneTick_126 rfl (lv_at hl 0 rfl) ?_
                  refine gt7_28 C hP in_X7_oneTick_7 ln_X7_oneTick_5 (v := (u.1 28)) rfl dX7_oneTick_127 ?_
                  refine lv_if_ne (tgt := 137) hx hb dX7_oneTick_130 (by decide) (fun c_30 => ?_) (fun c_30 => ?_)
                  · refine lv_aload_n hx hb dX7_oneTick_137 rfl (lv_at hl 0 rfl) ?_
                    refine gt7_16 C hP in_X7_oneTick_7 ln_X7_oneTick_3 (v := (u.1 16)) rfl dX7_oneTick_138 ?_
                    exact J_27 _ ((if_pos c_28).trans ((if_pos c_29).trans ((if_neg c_30).trans rfl))).symm
                  · refine lv_iconst (v := 4) hx hb dX7_oneTick_133 (by decide) ?_
                    refine lv_goto (tgt := 141) hx hb dX7_oneTick_134 (by decide) ?_
                    exact J_27 _ ((if_pos c_28).trans ((if_pos c_29).trans ((if_pos c_30).trans rfl))).symm
          · refine lv_aload_n hx hb dX7_oneTick_57 rfl (lv_at hl 0 rfl) ?_
            refine lv_dup hx hb dX7_oneTick_58 rfl ?_
            refine gt7_29 C hP in_X7_oneTick_7 ln_X7_oneTick_6 (v := (u.1 29)) rfl dX7_oneTick_59 ?_
            refine lv_iconst (v := 1) hx hb dX7_oneTick_62 (by decide) ?_
            refine lv_iadd hx hb dX7_oneTick_63 ?_
            refine pt7_29 C hP hD hS in_X7_oneTick_7 ln_X7_oneTick_6 dX7_oneTick_64 (fun H locs hP hD hS => ?_)
            refine lv_aload_n hx hb dX7_oneTick_67 rfl (lv_at hl 0 rfl) ?_
            refine gt7_29 C hP in_X7_oneTick_7 ln_X7_oneTick_6 (v := ((u.1 29) + 1)) rfl dX7_oneTick_68 ?_
            refine lv_iconst (v := 2) hx hb dX7_oneTick_71 (by decide) ?_
            refine lv_icmp_ne (tgt := 109) hx hb dX7_oneTick_72 (by decide) (fun c_31 => ?_) (fun c_31 => ?_)
            · refine lv_aload_n hx hb dX7_oneTick_109 rfl (lv_at hl 0 rfl) ?_
              refine lv_aload_n hx hb dX7_oneTick_110 rfl (lv_at hl 0 rfl) ?_
              refine gt7_16 C hP in_X7_oneTick_7 ln_X7_oneTick_3 (v := (u.1 16)) rfl dX7_oneTick_111 ?_
              refine lv_bipush (v := 7) hx hb dX7_oneTick_114 (by decide) ?_
              refine jn_i (g := fun x => F0 m 141 ls (.int x :: [.ref (ad 0)])) ((if (u.1 16) = 7 then (if (u.1 23) = 0 then (if (u.1 28) = 0 then 4 else (u.1 16)) else (u.1 16)) else (u.1 16))) (fun y_32 ey_32 => ?_) (fun J_32 => ?_)
              · refine pt7_16 C hP hD hS in_X7_oneTick_7 ln_X7_oneTick_3 dX7_oneTick_141 (fun H locs hP hD hS => ?_)
                subst ey_32
                exact rt_v C hr hlk hP hD hS ((if_neg c_1).trans ((if_neg c_2).trans ((if_pos c_24).trans ((if_pos c_25).trans ((if_neg c_26).trans ((if_neg c_31).trans rfl)))))) dX7_oneTick_144
              · refine lv_icmp_ne (tgt := 137) hx hb dX7_oneTick_116 (by decide) (fun c_33 => ?_) (fun c_33 => ?_)
                · refine lv_aload_n hx hb dX7_oneTick_137 rfl (lv_at hl 0 rfl) ?_
                  refine gt7_16 C hP in_X7_oneTick_7 ln_X7_oneTick_3 (v := (u.1 16)) rfl dX7_oneTick_138 ?_
                  exact J_32 _ ((if_neg c_33).trans rfl).symm
                · refine lv_aload_n hx hb dX7_oneTick_119 rfl (lv_at hl 0 rfl) ?_
                  refine gt7_23 C hP in_X7_oneTick_7 ln_X7_oneTick_4 (v := (u.1 23)) rfl dX7_oneTick_120 ?_
                  refine lv_if_ne (tgt := 137) hx hb dX7_oneTick_123 (by decide) (fun c_34 => ?_) (fun c_34 => ?_)
                  · refine lv_aload_n hx hb dX7_oneTick_137 rfl (lv_at hl 0 rfl) ?_
                    refine gt7_16 C hP in_X7_oneTick_7 ln_X7_oneTick_3 (v := (u.1 16)) rfl dX7_oneTick_138 ?_
                    exact J_32 _ ((if_pos c_33).trans ((if_neg c_34).trans rfl)).symm
                  · refine lv_aload_n hx hb dX7_oneTick_126 rfl (lv_at hl 0 rfl) ?_
                    refine gt7_28 C hP in_X7_oneTick_7 ln_X7_oneTick_5 (v := (u.1 28)) rfl dX7_oneTick_127 ?_
                    refine lv_if_ne (tgt := 137) hx hb dX7_oneTick_130 (by decide) (fun c_35 => ?_) (fun c_35 => ?_)
                    · refine lv_aload_n hx hb dX7_oneTick_137 rfl (lv_at hl 0 rfl) ?_
                      refine gt7_16 C hP in_X7_oneTick_7 ln_X7_oneTick_3 (v := (u.1 16)) rfl dX7_oneTick_138 ?_
                      exact J_32 _ ((if_pos c_33).trans ((if_pos c_34).trans ((if_neg c_35).trans rfl))).symm
                    · refine lv_iconst (v := 4) hx hb dX7_oneTick_133 (by decide) ?_
                      refine lv_goto (tgt := 141) hx hb dX7_oneTick_134 (by decide) ?_
                      exact J_32 _ ((if_pos c_33).trans ((if_pos c_34).trans ((if_pos c_35).trans rfl))).symm
            · refine lv_aload_n hx hb dX7_oneTick_75 rfl (lv_at hl 0 rfl) ?_
              refine lv_aload_n hx hb dX7_oneTick_76 rfl (lv_at hl 0 rfl) ?_
              refine gt7_27 C hP in_X7_oneTick_7 ln_X7_oneTick_7 (v := (u.1 27)) rfl dX7_oneTick_77 ?_
              refine lv_iconst (v := 0) hx hb dX7_oneTick_80 (by decide) ?_
              refine kv_v C (c_X7_groupEmpties l D cI cZ ad (ob_i (ob_i u 7 ((u.1 7) + 1)) 29 ((u.1 29) + 1)) (u.1 27) 0 hT.2.2.2 hT.2.2.1 hT.2.1) (cwV 2 C.2.2.2.2.1 gX7_oneTick_X7_groupEmpties rfl rfl rfl hdX7_groupEmpties ⟨Nat.le_of_ble_eq_true rfl, Nat.le_of_ble_eq_true rfl⟩) (ci := 7) (q0 := 0) rfl rfl rfl hP hD hS (sp_self (fun u => (w_7 cI ad u)) 9 (fun _ => rfl)) rfl hl.1 rfl (Nat.le_of_ble_eq_true rfl) dX7_oneTick_81 ⟨Nat.zero_le _, Nat.zero_le _⟩ (fun H locs hP hD hS => ?_)
              refine lv_aload_n hx hb dX7_oneTick_84 rfl (lv_at hl 0 rfl) ?_
              refine lv_dup hx hb dX7_oneTick_85 rfl ?_
              refine gt7_27 C hP in_X7_oneTick_7 ln_X7_oneTick_7 (v := ((f_X7_groupEmpties (ob_i (ob_i u 7 ((u.1 7) + 1)) 29 ((u.1 29) + 1)) (u.1 27) 0).1 27)) rfl dX7_oneTick_86 ?_
              refine lv_iconst (v := 1) hx hb dX7_oneTick_89 (by decide) ?_
              refine lv_iadd hx hb dX7_oneTick_90 ?_
              refine pt7_27 C hP hD hS in_X7_oneTick_7 ln_X7_oneTick_7 dX7_oneTick_91 (fun H locs hP hD hS => ?_)
              refine lv_aload_n hx hb dX7_oneTick_94 rfl (lv_at hl 0 rfl) ?_
              refine lv_dup hx hb dX7_oneTick_95 rfl ?_
              refine gt7_28 C hP in_X7_oneTick_7 ln_X7_oneTick_5 (v := ((f_X7_groupEmpties (ob_i (ob_i u 7 ((u.1 7) + 1)) 29 ((u.1 29) + 1)) (u.1 27) 0).1 28)) rfl dX7_oneTick_96 ?_
              refine lv_iconst (v := 1) hx hb dX7_oneTick_99 (by decide) ?_
              refine lv_isub hx hb dX7_oneTick_100 ?_
              refine pt7_28 C hP hD hS in_X7_oneTick_7 ln_X7_oneTick_5 dX7_oneTick_101 (fun H locs hP hD hS => ?_)
              refine lv_aload_n hx hb dX7_oneTick_104 rfl (lv_at hl 0 rfl) ?_
              refine lv_iconst (v := 0) hx hb dX7_oneTick_105 (by decide) ?_
              refine pt7_29 C hP hD hS in_X7_oneTick_7 ln_X7_oneTick_6 dX7_oneTick_106 (fun H locs hP hD hS => ?_)
              refine lv_aload_n hx hb dX7_oneTick_109 rfl (lv_at hl 0 rfl) ?_
              refine lv_aload_n hx hb dX7_oneTick_110 rfl (lv_at hl 0 rfl) ?_
              refine gt7_16 C hP in_X7_oneTick_7 ln_X7_oneTick_3 (v := ((f_X7_groupEmpties (ob_i (ob_i u 7 ((u.1 7) + 1)) 29 ((u.1 29) + 1)) (u.1 27) 0).1 16)) rfl dX7_oneTick_111 ?_
              refine lv_bipush (v := 7) hx hb dX7_oneTick_114 (by decide) ?_
              refine jn_i (g := fun x => F0 m 141 ls (.int x :: [.ref (ad 0)])) ((if ((f_X7_groupEmpties (ob_i (ob_i u 7 ((u.1 7) + 1)) 29 ((u.1 29) + 1)) (u.1 27) 0).1 16) = 7 then (if ((f_X7_groupEmpties (ob_i (ob_i u 7 ((u.1 7) + 1)) 29 ((u.1 29) + 1)) (u.1 27) 0).1 23) = 0 then (if (((f_X7_groupEmpties (ob_i (ob_i u 7 ((u.1 7) + 1)) 29 ((u.1 29) + 1)) (u.1 27) 0).1 28) - 1) = 0 then 4 else ((f_X7_groupEmpties (ob_i (ob_i u 7 ((u.1 7) + 1)) 29 ((u.1 29) + 1)) (u.1 27) 0).1 16)) else ((f_X7_groupEmpties (ob_i (ob_i u 7 ((u.1 7) + 1)) 29 ((u.1 29) + 1)) (u.1 27) 0).1 16)) else ((f_X7_groupEmpties (ob_i (ob_i u 7 ((u.1 7) + 1)) 29 ((u.1 29) + 1)) (u.1 27) 0).1 16))) (fun y_37 ey_37 => ?_) (fun J_37 => ?_)
              · refine pt7_16 C hP hD hS in_X7_oneTick_7 ln_X7_oneTick_3 dX7_oneTick_141 (fun H locs hP hD hS => ?_)
                subst ey_37
                exact rt_v C hr hlk hP hD hS ((if_neg c_1).trans ((if_neg c_2).trans ((if_pos c_24).trans ((if_pos c_25).trans ((if_neg c_26).trans ((if_pos c_31).trans rfl)))))) dX7_oneTick_144
              · refine lv_icmp_ne (tgt := 137) hx hb dX7_oneTick_116 (by decide) (fun c_38 => ?_) (fun c_38 => ?_)
                · refine lv_aload_n hx hb dX7_oneTick_137 rfl (lv_at hl 0 rfl) ?_
                  refine gt7_16 C hP in_X7_oneTick_7 ln_X7_oneTick_3 (v := ((f_X7_groupEmpties (ob_i (ob_i u 7 ((u.1 7) + 1)) 29 ((u.1 29) + 1)) (u.1 27) 0).1 16)) rfl dX7_oneTick_138 ?_
                  exact J_37 _ ((if_neg c_38).trans rfl).symm
                · refine lv_aload_n hx hb dX7_oneTick_119 rfl (lv_at hl 0 rfl) ?_
                  refine gt7_23 C hP in_X7_oneTick_7 ln_X7_oneTick_4 (v := ((f_X7_groupEmpties (ob_i (ob_i u 7 ((u.1 7) + 1)) 29 ((u.1 29) + 1)) (u.1 27) 0).1 23)) rfl dX7_oneTick_120 ?_
                  refine lv_if_ne (tgt := 137) hx hb dX7_oneTick_123 (by decide) (fun c_39 => ?_) (fun c_39 => ?_)
                  · refine lv_aload_n hx hb dX7_oneTick_137 rfl (lv_at hl 0 rfl) ?_
                    refine gt7_16 C hP in_X7_oneTick_7 ln_X7_oneTick_3 (v := ((f_X7_groupEmpties (ob_i (ob_i u 7 ((u.1 7) + 1)) 29 ((u.1 29) + 1)) (u.1 27) 0).1 16)) rfl dX7_oneTick_138 ?_
                    exact J_37 _ ((if_pos c_38).trans ((if_neg c_39).trans rfl)).symm
                  · refine lv_aload_n hx hb dX7_oneTick_126 rfl (lv_at hl 0 rfl) ?_
                    refine gt7_28 C hP in_X7_oneTick_7 ln_X7_oneTick_5 (v := (((f_X7_groupEmpties (ob_i (ob_i u 7 ((u.1 7) + 1)) 29 ((u.1 29) + 1)) (u.1 27) 0).1 28) - 1)) rfl dX7_oneTick_127 ?_
                    refine lv_if_ne (tgt := 137) hx hb dX7_oneTick_130 (by decide) (fun c_40 => ?_) (fun c_40 => ?_)
                    · refine lv_aload_n hx hb dX7_oneTick_137 rfl (lv_at hl 0 rfl) ?_
                      refine gt7_16 C hP in_X7_oneTick_7 ln_X7_oneTick_3 (v := ((f_X7_groupEmpties (ob_i (ob_i u 7 ((u.1 7) + 1)) 29 ((u.1 29) + 1)) (u.1 27) 0).1 16)) rfl dX7_oneTick_138 ?_
                      exact J_37 _ ((if_pos c_38).trans ((if_pos c_39).trans ((if_neg c_40).trans rfl))).symm
                    · refine lv_iconst (v := 4) hx hb dX7_oneTick_133 (by decide) ?_
                      refine lv_goto (tgt := 141) hx hb dX7_oneTick_134 (by decide) ?_
                      exact J_37 _ ((if_pos c_38).trans ((if_pos c_39).trans ((if_pos c_40).trans rfl))).symm
        · refine lv_aload_n hx hb dX7_oneTick_43 rfl (lv_at hl 0 rfl) ?_
          refine kv_v C (c_X7_writes l D cI cZ ad (ob_i u 7 ((u.1 7) + 1))  (hT.1 c_25).1 hT.2.1 (hT.1 c_25).2) (cwV 0 C.2.2.2.2.1 gX7_oneTick_X7_writes rfl rfl rfl hdX7_writes ⟨Nat.le_of_ble_eq_true rfl, Nat.le_of_ble_eq_true rfl⟩) (ci := 7) (q0 := 0) rfl rfl rfl hP hD hS (sp_self (fun u => (w_7 cI ad u)) 9 (fun _ => rfl)) rfl hl.1 rfl (Nat.le_of_ble_eq_true rfl) dX7_oneTick_44 ⟨Nat.zero_le _, Nat.zero_le _⟩ (fun H locs hP hD hS => ?_)
          refine lv_goto (tgt := 109) hx hb dX7_oneTick_47 (by decide) ?_
          refine lv_aload_n hx hb dX7_oneTick_109 rfl (lv_at hl 0 rfl) ?_
          refine lv_aload_n hx hb dX7_oneTick_110 rfl (lv_at hl 0 rfl) ?_
          refine gt7_16 C hP in_X7_oneTick_7 ln_X7_oneTick_3 (v := ((f_X7_writes (ob_i u 7 ((u.1 7) + 1))).1 16)) rfl dX7_oneTick_111 ?_
          refine lv_bipush (v := 7) hx hb dX7_oneTick_114 (by decide) ?_
          refine jn_i (g := fun x => F0 m 141 ls (.int x :: [.ref (ad 0)])) ((if ((f_X7_writes (ob_i u 7 ((u.1 7) + 1))).1 16) = 7 then (if ((f_X7_writes (ob_i u 7 ((u.1 7) + 1))).1 23) = 0 then (if ((f_X7_writes (ob_i u 7 ((u.1 7) + 1))).1 28) = 0 then 4 else ((f_X7_writes (ob_i u 7 ((u.1 7) + 1))).1 16)) else ((f_X7_writes (ob_i u 7 ((u.1 7) + 1))).1 16)) else ((f_X7_writes (ob_i u 7 ((u.1 7) + 1))).1 16))) (fun y_42 ey_42 => ?_) (fun J_42 => ?_)
          · refine pt7_16 C hP hD hS in_X7_oneTick_7 ln_X7_oneTick_3 dX7_oneTick_141 (fun H locs hP hD hS => ?_)
            subst ey_42
            exact rt_v C hr hlk hP hD hS ((if_neg c_1).trans ((if_neg c_2).trans ((if_pos c_24).trans ((if_neg c_25).trans rfl)))) dX7_oneTick_144
          · refine lv_icmp_ne (tgt := 137) hx hb dX7_oneTick_116 (by decide) (fun c_43 => ?_) (fun c_43 => ?_)
            · refine lv_aload_n hx hb dX7_oneTick_137 rfl (lv_at hl 0 rfl) ?_
              refine gt7_16 C hP in_X7_oneTick_7 ln_X7_oneTick_3 (v := ((f_X7_writes (ob_i u 7 ((u.1 7) + 1))).1 16)) rfl dX7_oneTick_138 ?_
              exact J_42 _ ((if_neg c_43).trans rfl).symm
            · refine lv_aload_n hx hb dX7_oneTick_119 rfl (lv_at hl 0 rfl) ?_
              refine gt7_23 C hP in_X7_oneTick_7 ln_X7_oneTick_4 (v := ((f_X7_writes (ob_i u 7 ((u.1 7) + 1))).1 23)) rfl dX7_oneTick_120 ?_
              refine lv_if_ne (tgt := 137) hx hb dX7_oneTick_123 (by decide) (fun c_44 => ?_) (fun c_44 => ?_)
              · refine lv_aload_n hx hb dX7_oneTick_137 rfl (lv_at hl 0 rfl) ?_
                refine gt7_16 C hP in_X7_oneTick_7 ln_X7_oneTick_3 (v := ((f_X7_writes (ob_i u 7 ((u.1 7) + 1))).1 16)) rfl dX7_oneTick_138 ?_
                exact J_42 _ ((if_pos c_43).trans ((if_neg c_44).trans rfl)).symm
              · refine lv_aload_n hx hb dX7_oneTick_126 rfl (lv_at hl 0 rfl) ?_
                refine gt7_28 C hP in_X7_oneTick_7 ln_X7_oneTick_5 (v := ((f_X7_writes (ob_i u 7 ((u.1 7) + 1))).1 28)) rfl dX7_oneTick_127 ?_
                refine lv_if_ne (tgt := 137) hx hb dX7_oneTick_130 (by decide) (fun c_45 => ?_) (fun c_45 => ?_)
                · refine lv_aload_n hx hb dX7_oneTick_137 rfl (lv_at hl 0 rfl) ?_
                  refine gt7_16 C hP in_X7_oneTick_7 ln_X7_oneTick_3 (v := ((f_X7_writes (ob_i u 7 ((u.1 7) + 1))).1 16)) rfl dX7_oneTick_138 ?_
                  exact J_42 _ ((if_pos c_43).trans ((if_pos c_44).trans ((if_neg c_45).trans rfl))).symm
                · refine lv_iconst (v := 4) hx hb dX7_oneTick_133 (by decide) ?_
                  refine lv_goto (tgt := 141) hx hb dX7_oneTick_134 (by decide) ?_
                  exact J_42 _ ((if_pos c_43).trans ((if_pos c_44).trans ((if_pos c_45).trans rfl))).symm
      · exact rt_v C hr hlk hP hD hS ((if_neg c_1).trans ((if_neg c_2).trans ((if_neg c_24).trans rfl))) dX7_oneTick_35
theorem ln_X7_tick_1 : Cond.constantLong RX7 253 (400) ∈ wsX7_tick := List.mem_of_getElem? (i := 1) rfl
theorem ln_X7_tick_2 : Cond.fieldLink RX7 65 "BlockCardModel" "ticks" "I" ∈ wsX7_tick := List.mem_of_getElem? (i := 2) rfl
theorem in_X7_tick_7 : ∀ w ∈ wsX70, w ∈ wsX7_tick := fun w h => List.mem_cons_of_mem _ (List.mem_append_right _ h)
set_option maxHeartbeats 4000000 in
set_option maxRecDepth 100000 in
theorem lp_X7_tick_16 {p : Program} {l : Launch} {e : Env} {s : State} {m : MethodId} {args : Array Value} {below : List Frame} {meth : Method} {c : Code} {D : va_G} {A : Nat → Prop} {cI cZ : ClassId} {ad : Nat → Nat} {x1 : Int32} {F : Int32 × ob_S} (C : cx_C p c cX7_tick 3 s m args wsX7_tick RX7 D (ct_T cI cZ) A) (hr : meth.sig.returnType = some .int) (hlk : meth.locks = false) (I : ob_S → Prop) (hp : ∀ u, I u → pm_T u) (hst : ∀ u, I u → I (f_X7_oneTick u)) : ∀ (n : Nat) (x2 : Int32) (u : ob_S) (H : Heap) (locs : List Loc) (ls : Array Slot), x1.toInt - x2.toInt < (n : Int) → x2.toInt ≤ x1.toInt → I u → F = k_X7_tick_16 x1 n x2 u → va_P D vwCl (w_7 cI ad u) H → va_D A (w_7 cI ad u) → va_S A s.heap H locs → lv_has ls 3 [(0, .ref (ad 0)), (1, .int x1), (2, .int x2)] → W p l e ({ frames := 4, cells := 0, slots := 0, locals := 88 } : Room) s m args below meth c H locs 0 0 (MQ below (ct_Qi D (ct_T cI cZ) (fun u => (w_7 cI ad u)) F A) args s 0 0 A) (F0 m 16 ls []) := by
  have hx := C.1
  have hb := C.2.1
  intro n
  induction n with
  | zero =>
    intro x2 u H locs ls i0 i1 i2
    exact absurd i0 (by omega)
  | succ n ih =>
    intro x2 u H locs ls i0 i1 i2 hF hP hD hS hl
    refine lv_iload_n hx hb dX7_tick_16 rfl (lv_at hl 2 rfl) ?_
    refine lv_iload_n hx hb dX7_tick_17 rfl (lv_at hl 1 rfl) ?_
    refine lv_icmp_ge (tgt := 31) hx hb dX7_tick_18 (by decide) (fun c_2 => ?_) (fun c_2 => ?_)
    · refine lv_aload_n hx hb dX7_tick_31 rfl (lv_at hl 0 rfl) ?_
      refine gt7_7 C hP in_X7_tick_7 ln_X7_tick_2 (v := (u.1 7)) rfl dX7_tick_32 ?_
      exact rt_i C hr hlk hP hD hS (hF.trans ((if_pos c_2).trans rfl)) dX7_tick_35
    · refine lv_aload_n hx hb dX7_tick_21 rfl (lv_at hl 0 rfl) ?_
      refine kv_v C (c_X7_oneTick l D cI cZ ad u  (hp u i2)) (cwV 0 C.2.2.2.2.1 gX7_tick_X7_oneTick rfl rfl rfl hdX7_oneTick ⟨Nat.le_of_ble_eq_true rfl, Nat.le_of_ble_eq_true rfl⟩) (ci := 7) (q0 := 0) rfl rfl rfl hP hD hS (sp_self (fun u => (w_7 cI ad u)) 9 (fun _ => rfl)) rfl hl.1 rfl (Nat.le_of_ble_eq_true rfl) dX7_tick_22 ⟨Nat.zero_le _, Nat.zero_le _⟩ (fun H locs hP hD hS => ?_)
      refine lv_iinc (v := (x2 + 1)) (lv' := [(2, .int _), (0, .ref _), (1, .int _)]) hx hb dX7_tick_25 hl (k := 2) rfl rfl (by decide) rfl (fun ls hl => ?_)
      refine lv_goto (tgt := 16) hx hb dX7_tick_28 (by decide) ?_
      exact ih (x2 + 1) (f_X7_oneTick u)  _ _ _ (by have h := nle_t c_2; have h2 := inc_t (x := x2) (y := x1) (by rw [Int32.lt_iff_toInt_lt]; exact h); omega) (by have h := nle_t c_2; have h2 := inc_t (x := x2) (y := x1) (by rw [Int32.lt_iff_toInt_lt]; exact h); omega) (hst u i2) (hF.trans ((if_neg c_2).trans rfl)) hP hD hS (lv_sub hl [1, 2, 0] rfl)
set_option maxHeartbeats 4000000 in
set_option maxRecDepth 100000 in
theorem c_X7_tick (l : Launch) (D : va_G) (cI cZ : ClassId) (ad : Nat → Nat) (u : ob_S) (x1 : Int32) (I : ob_S → Prop) (hI : I u) (hp : ∀ u, I u → pm_T u) (hst : ∀ u, I u → I (f_X7_oneTick u)) : Ct_i l yX7_tick wsX7_tick ({ frames := 4, cells := 0, slots := 0, locals := 88 } : Room) D (ct_T cI cZ) [.ref (ad 0), .int x1] (w_7 cI ad u) (fun u => (w_7 cI ad u)) (f_X7_tick u x1) := by
  refine en_i (cc := cX7_tick) (maxL := 3) (ret := (some .int)) (own := RX7) (by decide +kernel) rfl rfl (Nat.le_of_ble_eq_true rfl) ?_
  intro p e s m args below meth c A ls C hr hlk hP hD hS hl
  have hx := C.1
  have hb := C.2.1
  have hl : lv_has ls 3 [(0, .ref (ad 0)), (1, .int x1)] := hl
  refine lv_iload_n hx hb dX7_tick_0 rfl (lv_at hl 1 rfl) ?_
  refine lv_i2l hx hb dX7_tick_1 rfl ?_
  refine lv_lconst (v := 1) hx hb dX7_tick_2 (by decide) ?_
  refine lv_ldc2 (v := 400) hx hb C.2.2.2.1 (C.2.2.2.2.1 _ ln_X7_tick_1) dX7_tick_3 ?_
  refine ks_p C (c_X7_in l D cI cZ (Int32.toInt64 x1) 1 400 ) (va_cwS 3 C.2.2.2.2.1 gX7_tick_X7_in rfl rfl rfl hdX7_in ⟨Nat.le_of_ble_eq_true rfl, Nat.le_of_ble_eq_true rfl⟩) hP hD hS rfl hl.1 rfl (Nat.le_of_ble_eq_true rfl) dX7_tick_6 ⟨Nat.zero_le _, Nat.zero_le _⟩ (fun H locs hP hS => ?_)
  refine lv_if_ne (tgt := 14) hx hb dX7_tick_9 (by decide) (fun c_1 => ?_) (fun c_1 => ?_)
  · refine lv_iconst (v := 0) hx hb dX7_tick_14 (by decide) ?_
    refine lv_istore_n (lv' := [(2, .int _), (0, .ref _), (1, .int _)]) hx hb dX7_tick_15 rfl hl (by decide) rfl (fun ls hl => ?_)
    exact lp_X7_tick_16 C hr hlk  I hp hst 401 0 u _ _ _ (by have h := in_t c_1; rw [Int32.toInt_toInt64] at h; have e : (400 : Int64).toInt = 400 := (by decide); have e2 : (0 : Int32).toInt = 0 := (by decide); omega) (by have h := in_t c_1; rw [Int32.toInt_toInt64] at h; have e : (1 : Int64).toInt = 1 := (by decide); have e2 : (0 : Int32).toInt = 0 := (by decide); omega) hI ((if_neg c_1).trans rfl) hP hD hS (lv_sub hl [1, 2, 0] rfl)
  · refine lv_iconst (v := (-1)) hx hb dX7_tick_12 (by decide) ?_
    exact rt_i C hr hlk hP hD hS ((if_pos c_1).trans rfl) dX7_tick_13
set_option maxHeartbeats 4000000 in
set_option maxRecDepth 100000 in
theorem lp_X7_tune_63 {p : Program} {l : Launch} {e : Env} {R : Room} {s : State} {m : MethodId} {args : Array Value} {below : List Frame} {meth : Method} {c : Code} {H : Heap} {locs : List Loc} {cells slots : Nat} {Q : State → Prop} (hx : p.tables.exec = Jvm.exec) (hb : c.code = cX7_tune) {q : Nat} {x1 x2 x3 x4 : Int32} : ∀ (n : Nat) (x5 : Int32) (ls : Array Slot), 16 - x5.toInt < (n : Int) → x5.toInt ≤ 16 → lv_has ls 6 [(0, .ref q), (1, .int x1), (2, .int x2), (3, .int x3), (4, .int x4), (5, .int x5)] →
    (∀ ls : Array Slot, lv_has ls 6 [(5, .int (k_X7_tune_63 x1 x4 n x5)), (0, .ref q), (1, .int x1), (2, .int x2), (3, .int x3), (4, .int x4)] → W p l e R s m args below meth c H locs cells slots Q (F0 m 92 ls [])) → W p l e R s m args below meth c H locs cells slots Q (F0 m 63 ls []) := by
  intro n
  induction n with
  | zero => intro x5 ls i0 i1; exact absurd i0 (by omega)
  | succ n ih =>
    intro x5 ls i0 i1 hl kk
    refine lv_iload hx hb dX7_tune_63 (lv_at hl 5 rfl) ?_
    refine lv_bipush (v := 16) hx hb dX7_tune_65 (by decide) ?_
    refine lv_icmp_ge (tgt := 92) hx hb dX7_tune_67 (by decide) (fun c_1 => ?_) (fun c_1 => ?_)
    · have e1 : k_X7_tune_63 x1 x4 (n + 1) x5 = x5 := if_pos c_1
      exact kk ls (by rw [e1]; exact lv_sub hl [5, 0, 1, 2, 3, 4] rfl)
    · refine lv_iload_n hx hb dX7_tune_70 rfl (lv_at hl 1 rfl) ?_
      refine lv_iload hx hb dX7_tune_71 (lv_at hl 4 rfl) ?_
      refine lv_iload hx hb dX7_tune_73 (lv_at hl 5 rfl) ?_
      refine lv_iadd hx hb dX7_tune_75 ?_
      refine lv_bipush (v := 16) hx hb dX7_tune_76 (by decide) ?_
      refine lv_irem hx hb dX7_tune_78 (by decide) ?_
      refine lv_ishr hx hb dX7_tune_79 ?_
      refine lv_iconst (v := 1) hx hb dX7_tune_80 (by decide) ?_
      refine lv_iand hx hb dX7_tune_81 ?_
      refine lv_iconst (v := 1) hx hb dX7_tune_82 (by decide) ?_
      refine lv_icmp_ne (tgt := 92) hx hb dX7_tune_83 (by decide) (fun c_2 => ?_) (fun c_2 => ?_)
      · have e1 : k_X7_tune_63 x1 x4 (n + 1) x5 = x5 := (if_neg c_1).trans (if_neg c_2)
        exact kk ls (by rw [e1]; exact lv_sub hl [5, 0, 1, 2, 3, 4] rfl)
      · have e1 : k_X7_tune_63 x1 x4 (n + 1) x5 = k_X7_tune_63 x1 x4 n (x5 + 1) := (if_neg c_1).trans (if_pos c_2)
        refine lv_iinc (v := (x5 + 1)) (lv' := [(5, .int _), (0, .ref _), (1, .int _), (2, .int _), (3, .int _), (4, .int _)]) hx hb dX7_tune_86 hl (k := 5) rfl rfl (by decide) rfl (fun ls hl => ?_)
        refine lv_goto (tgt := 63) hx hb dX7_tune_89 (by decide) ?_
        have h := nle_k (n := 16) c_1 (by decide)
        have h2 := inc_b h (by decide)
        exact ih _ _ (by omega) (by omega) (lv_sub hl [1, 2, 3, 4, 5, 0] rfl) (fun ls h => kk ls (by rw [e1]; exact h))
set_option maxHeartbeats 4000000 in
set_option maxRecDepth 100000 in
theorem lp_X7_tune_53 {p : Program} {l : Launch} {e : Env} {s : State} {m : MethodId} {args : Array Value} {below : List Frame} {meth : Method} {c : Code} {D : va_G} {A : Nat → Prop} {cI cZ : ClassId} {ad : Nat → Nat} {x1 : Int32} {F : Int32 × ob_S} (C : cx_C p c cX7_tune 6 s m args wsX7_tune RX7 D (ct_T cI cZ) A) (hr : meth.sig.returnType = some .int) (hlk : meth.locks = false) (I : ob_S → Prop) (hp : ∀ u, I u → pm_A u) (hst : ∀ u a, I u → I (f_X7_tell u 21 a).2) : ∀ (n : Nat) (x2 : Int32) (x3 : Int32) (x4 : Int32) (u : ob_S) (H : Heap) (locs : List Loc) (ls : Array Slot), 16 - x4.toInt < (n : Int) → x4.toInt ≤ 16 → I u → F = k_X7_tune_53 x1 n x2 x3 x4 u → va_P D vwCl (w_7 cI ad u) H → va_D A (w_7 cI ad u) → va_S A s.heap H locs → lv_has ls 6 [(0, .ref (ad 0)), (1, .int x1), (2, .int x2), (3, .int x3), (4, .int x4)] → W p l e ({ frames := 7, cells := 0, slots := 0, locals := 160 } : Room) s m args below meth c H locs 0 0 (MQ below (ct_Qi D (ct_T cI cZ) (fun u => (w_7 cI ad u)) F A) args s 0 0 A) (F0 m 53 ls []) := by
  have hx := C.1
  have hb := C.2.1
  intro n
  induction n with
  | zero =>
    intro x2 x3 x4 u H locs ls i0 i1 i2
    exact absurd i0 (by omega)
  | succ n ih =>
    intro x2 x3 x4 u H locs ls i0 i1 i2 hF hP hD hS hl
    refine lv_iload hx hb dX7_tune_53 (lv_at hl 4 rfl) ?_
    refine lv_bipush (v := 16) hx hb dX7_tune_55 (by decide) ?_
    refine lv_icmp_ge (tgt := 124) hx hb dX7_tune_57 (by decide) (fun c_3 => ?_) (fun c_3 => ?_)
    · refine lv_iload_n hx hb dX7_tune_124 rfl (lv_at hl 2 rfl) ?_
      refine lv_iload_n hx hb dX7_tune_125 rfl (lv_at hl 3 rfl) ?_
      refine lv_iconst (v := 1) hx hb dX7_tune_126 (by decide) ?_
      refine lv_isub hx hb dX7_tune_127 ?_
      refine lv_iconst (v := 2) hx hb dX7_tune_128 (by decide) ?_
      refine lv_idiv hx hb dX7_tune_129 (by decide) ?_
      refine lv_iadd hx hb dX7_tune_130 ?_
      refine lv_bipush (v := 16) hx hb dX7_tune_131 (by decide) ?_
      refine lv_irem hx hb dX7_tune_133 (by decide) ?_
      refine lv_istore (lv' := [(4, .int _), (0, .ref _), (1, .int _), (2, .int _), (3, .int _)]) hx hb dX7_tune_134 hl (by decide) rfl (fun ls hl => ?_)
      refine lv_aload_n hx hb dX7_tune_136 rfl (lv_at hl 1 rfl) ?_
      refine lv_bipush (v := 21) hx hb dX7_tune_137 (by decide) ?_
      refine lv_iload hx hb dX7_tune_139 (lv_at hl 0 rfl) ?_
      refine kv_i C (c_X7_tell l D cI cZ ad u 21 ((x2 + ((x3 - 1) / 2)) - (x2 + ((x3 - 1) / 2)) / 16 * 16) (hp u i2)) (cwV 2 C.2.2.2.2.1 gX7_tune_X7_tell rfl rfl rfl hdX7_tell ⟨Nat.le_of_ble_eq_true rfl, Nat.le_of_ble_eq_true rfl⟩) (ci := 7) (q0 := 0) rfl rfl rfl hP hD hS (sp_self (fun u => (w_7 cI ad u)) 9 (fun _ => rfl)) rfl hl.1 rfl (Nat.le_of_ble_eq_true rfl) dX7_tune_141 ⟨Nat.zero_le _, Nat.zero_le _⟩ (fun H locs hP hD hS => ?_)
      refine lv_pop hx hb dX7_tune_144 rfl ?_
      refine lv_iload hx hb dX7_tune_145 (lv_at hl 0 rfl) ?_
      exact rt_i C hr hlk hP hD hS (hF.trans ((if_pos c_3).trans rfl)) dX7_tune_147
    · refine lv_iconst (v := 0) hx hb dX7_tune_60 (by decide) ?_
      refine lv_istore (lv' := [(5, .int _), (0, .ref _), (1, .int _), (2, .int _), (3, .int _), (4, .int _)]) hx hb dX7_tune_61 hl (by decide) rfl (fun ls hl => ?_)
      refine lp_X7_tune_63 hx hb 17 _ _ (by decide) (by decide) (lv_sub hl [1, 2, 3, 4, 5, 0] rfl) (fun ls hl => ?_)
      refine lv_iload hx hb dX7_tune_92 (lv_at hl 0 rfl) ?_
      refine lv_iload_n hx hb dX7_tune_94 rfl (lv_at hl 4 rfl) ?_
      refine jn_i (g := fun x => F0 m 104 ls (.int x :: [])) ((if (k_X7_tune_63 x1 x4 17 0) ≤ x3 then x2 else x4)) (fun y_5 ey_5 => ?_) (fun J_5 => ?_)
      · refine lv_istore_n (lv' := [(2, .int _), (5, .int _), (0, .ref _), (1, .int _), (3, .int _), (4, .int _)]) hx hb dX7_tune_104 rfl hl (by decide) rfl (fun ls hl => ?_)
        refine lv_iload hx hb dX7_tune_105 (lv_at hl 1 rfl) ?_
        refine lv_iload_n hx hb dX7_tune_107 rfl (lv_at hl 4 rfl) ?_
        refine jn_i (g := fun x => F0 m 117 ls (.int x :: [])) ((if (k_X7_tune_63 x1 x4 17 0) ≤ x3 then x3 else (k_X7_tune_63 x1 x4 17 0))) (fun y_7 ey_7 => ?_) (fun J_7 => ?_)
        · refine lv_istore_n (lv' := [(3, .int _), (2, .int _), (5, .int _), (0, .ref _), (1, .int _), (4, .int _)]) hx hb dX7_tune_117 rfl hl (by decide) rfl (fun ls hl => ?_)
          refine lv_iinc (v := (x4 + 1)) (lv' := [(4, .int _), (3, .int _), (2, .int _), (5, .int _), (0, .ref _), (1, .int _)]) hx hb dX7_tune_118 hl (k := 5) rfl rfl (by decide) rfl (fun ls hl => ?_)
          refine lv_goto (tgt := 53) hx hb dX7_tune_121 (by decide) ?_
          subst ey_5 ey_7
          exact ih _ _ _ _  _ _ _ (by have h := nle_k (n := 16) c_3 (by decide); have h2 := inc_b h (by decide); omega) (by have h := nle_k (n := 16) c_3 (by decide); have h2 := inc_b h (by decide); omega) i2 (hF.trans ((if_neg c_3).trans rfl)) hP hD hS (lv_sub hl [4, 5, 2, 1, 0] rfl)
        · refine lv_icmp_le (tgt := 116) hx hb dX7_tune_108 (by decide) (fun c_8 => ?_) (fun c_8 => ?_)
          · refine lv_iload_n hx hb dX7_tune_116 rfl (lv_at hl 4 rfl) ?_
            exact J_7 _ ((if_pos c_8).trans rfl).symm
          · refine lv_iload hx hb dX7_tune_111 (lv_at hl 1 rfl) ?_
            refine lv_goto (tgt := 117) hx hb dX7_tune_113 (by decide) ?_
            exact J_7 _ ((if_neg c_8).trans rfl).symm
      · refine lv_icmp_le (tgt := 103) hx hb dX7_tune_95 (by decide) (fun c_6 => ?_) (fun c_6 => ?_)
        · refine lv_iload_n hx hb dX7_tune_103 rfl (lv_at hl 3 rfl) ?_
          exact J_5 _ ((if_pos c_6).trans rfl).symm
        · refine lv_iload hx hb dX7_tune_98 (lv_at hl 5 rfl) ?_
          refine lv_goto (tgt := 104) hx hb dX7_tune_100 (by decide) ?_
          exact J_5 _ ((if_neg c_6).trans rfl).symm
set_option maxHeartbeats 4000000 in
set_option maxRecDepth 100000 in
theorem lp_X7_tune_4 {p : Program} {l : Launch} {e : Env} {s : State} {m : MethodId} {args : Array Value} {below : List Frame} {meth : Method} {c : Code} {D : va_G} {A : Nat → Prop} {cI cZ : ClassId} {ad : Nat → Nat} {F : Int32 × ob_S} (C : cx_C p c cX7_tune 6 s m args wsX7_tune RX7 D (ct_T cI cZ) A) (hr : meth.sig.returnType = some .int) (hlk : meth.locks = false) (I : ob_S → Prop) (hp : ∀ u, I u → pm_A u) (hst : ∀ u a, I u → I (f_X7_tell u 21 a).2) : ∀ (n : Nat) (x1 : Int32) (x2 : Int32) (u : ob_S) (H : Heap) (locs : List Loc) (ls : Array Slot), 16 - x2.toInt < (n : Int) → x2.toInt ≤ 16 → I u → F = k_X7_tune_4  n x1 x2 u → va_P D vwCl (w_7 cI ad u) H → va_D A (w_7 cI ad u) → va_S A s.heap H locs → lv_has ls 6 [(0, .ref (ad 0)), (1, .int x1), (2, .int x2)] → W p l e ({ frames := 7, cells := 0, slots := 0, locals := 160 } : Room) s m args below meth c H locs 0 0 (MQ below (ct_Qi D (ct_T cI cZ) (fun u => (w_7 cI ad u)) F A) args s 0 0 A) (F0 m 4 ls []) := by
  have hx := C.1
  have hb := C.2.1
  intro n
  induction n with
  | zero =>
    intro x1 x2 u H locs ls i0 i1 i2
    exact absurd i0 (by omega)
  | succ n ih =>
    intro x1 x2 u H locs ls i0 i1 i2 hF hP hD hS hl
    refine lv_iload_n hx hb dX7_tune_4 rfl (lv_at hl 2 rfl) ?_
    refine lv_bipush (v := 16) hx hb dX7_tune_5 (by decide) ?_
    refine lv_icmp_ge (tgt := 39) hx hb dX7_tune_7 (by decide) (fun c_1 => ?_) (fun c_1 => ?_)
    · refine lv_iload_n hx hb dX7_tune_39 rfl (lv_at hl 1 rfl) ?_
      refine lv_if_ne (tgt := 46) hx hb dX7_tune_40 (by decide) (fun c_2 => ?_) (fun c_2 => ?_)
      · refine lv_iconst (v := 0) hx hb dX7_tune_46 (by decide) ?_
        refine lv_istore_n (lv' := [(2, .int _), (0, .ref _), (1, .int _)]) hx hb dX7_tune_47 rfl hl (by decide) rfl (fun ls hl => ?_)
        refine lv_iconst (v := 0) hx hb dX7_tune_48 (by decide) ?_
        refine lv_istore_n (lv' := [(3, .int _), (2, .int _), (0, .ref _), (1, .int _)]) hx hb dX7_tune_49 rfl hl (by decide) rfl (fun ls hl => ?_)
        refine lv_iconst (v := 0) hx hb dX7_tune_50 (by decide) ?_
        refine lv_istore (lv' := [(4, .int _), (3, .int _), (2, .int _), (0, .ref _), (1, .int _)]) hx hb dX7_tune_51 hl (by decide) rfl (fun ls hl => ?_)
        exact lp_X7_tune_53 C hr hlk  I hp hst 17 0 0 0 u _ _ _ (by decide) (by decide) i2 (hF.trans ((if_pos c_1).trans ((if_neg c_2).trans rfl))) hP hD hS (lv_sub hl [3, 4, 2, 1, 0] rfl)
      · refine lv_bipush (v := (-2)) hx hb dX7_tune_43 (by decide) ?_
        exact rt_i C hr hlk hP hD hS (hF.trans ((if_pos c_1).trans ((if_pos c_2).trans rfl))) dX7_tune_45
    · refine lv_aload_n hx hb dX7_tune_10 rfl (lv_at hl 0 rfl) ?_
      refine lv_bipush (v := 21) hx hb dX7_tune_11 (by decide) ?_
      refine lv_iload_n hx hb dX7_tune_13 rfl (lv_at hl 2 rfl) ?_
      refine kv_i C (c_X7_tell l D cI cZ ad u 21 x2 (hp u i2)) (cwV 2 C.2.2.2.2.1 gX7_tune_X7_tell rfl rfl rfl hdX7_tell ⟨Nat.le_of_ble_eq_true rfl, Nat.le_of_ble_eq_true rfl⟩) (ci := 7) (q0 := 0) rfl rfl rfl hP hD hS (sp_self (fun u => (w_7 cI ad u)) 9 (fun _ => rfl)) rfl hl.1 rfl (Nat.le_of_ble_eq_true rfl) dX7_tune_14 ⟨Nat.zero_le _, Nat.zero_le _⟩ (fun H locs hP hD hS => ?_)
      refine lv_istore_n (lv' := [(3, .int _), (0, .ref _), (1, .int _), (2, .int _)]) hx hb dX7_tune_17 rfl hl (by decide) rfl (fun ls hl => ?_)
      refine lv_iload_n hx hb dX7_tune_18 rfl (lv_at hl 0 rfl) ?_
      refine lv_bipush (v := (-4)) hx hb dX7_tune_19 (by decide) ?_
      refine lv_icmp_ne (tgt := 27) hx hb dX7_tune_21 (by decide) (fun c_10 => ?_) (fun c_10 => ?_)
      · refine lv_iload_n hx hb dX7_tune_27 rfl (lv_at hl 2 rfl) ?_
        refine lv_iload_n hx hb dX7_tune_28 rfl (lv_at hl 0 rfl) ?_
        refine lv_iload_n hx hb dX7_tune_29 rfl (lv_at hl 3 rfl) ?_
        refine lv_ishl hx hb dX7_tune_30 ?_
        refine lv_ior hx hb dX7_tune_31 ?_
        refine lv_istore_n (lv' := [(1, .int _), (3, .int _), (0, .ref _), (2, .int _)]) hx hb dX7_tune_32 rfl hl (by decide) rfl (fun ls hl => ?_)
        refine lv_iinc (v := (x2 + 1)) (lv' := [(2, .int _), (1, .int _), (3, .int _), (0, .ref _)]) hx hb dX7_tune_33 hl (k := 3) rfl rfl (by decide) rfl (fun ls hl => ?_)
        refine lv_goto (tgt := 4) hx hb dX7_tune_36 (by decide) ?_
        exact ih (x1 ||| ((f_X7_tell u 21 x2).1 <<< ((x2 : Int32) &&& 31))) (x2 + 1) (f_X7_tell u 21 x2).2  _ _ _ (by have h := nle_k (n := 16) c_1 (by decide); have h2 := inc_b h (by decide); omega) (by have h := nle_k (n := 16) c_1 (by decide); have h2 := inc_b h (by decide); omega) (hst _ _ i2) (hF.trans ((if_neg c_1).trans ((if_neg c_10).trans rfl))) hP hD hS (lv_sub hl [3, 1, 0] rfl)
      · refine lv_bipush (v := (-4)) hx hb dX7_tune_24 (by decide) ?_
        exact rt_i C hr hlk hP hD hS (hF.trans ((if_neg c_1).trans ((if_pos c_10).trans rfl))) dX7_tune_26
set_option maxHeartbeats 4000000 in
set_option maxRecDepth 100000 in
theorem c_X7_tune (l : Launch) (D : va_G) (cI cZ : ClassId) (ad : Nat → Nat) (u : ob_S) (I : ob_S → Prop) (hI : I u) (hp : ∀ u, I u → pm_A u) (hst : ∀ u a, I u → I (f_X7_tell u 21 a).2) : Ct_i l yX7_tune wsX7_tune ({ frames := 7, cells := 0, slots := 0, locals := 160 } : Room) D (ct_T cI cZ) [.ref (ad 0)] (w_7 cI ad u) (fun u => (w_7 cI ad u)) (f_X7_tune u) := by
  refine en_i (cc := cX7_tune) (maxL := 6) (ret := (some .int)) (own := RX7) (by decide +kernel) rfl rfl (Nat.le_of_ble_eq_true rfl) ?_
  intro p e s m args below meth c A ls C hr hlk hP hD hS hl
  have hx := C.1
  have hb := C.2.1
  have hl : lv_has ls 6 [(0, .ref (ad 0))] := hl
  refine lv_iconst (v := 0) hx hb dX7_tune_0 (by decide) ?_
  refine lv_istore_n (lv' := [(1, .int _), (0, .ref _)]) hx hb dX7_tune_1 rfl hl (by decide) rfl (fun ls hl => ?_)
  refine lv_iconst (v := 0) hx hb dX7_tune_2 (by decide) ?_
  refine lv_istore_n (lv' := [(2, .int _), (1, .int _), (0, .ref _)]) hx hb dX7_tune_3 rfl hl (by decide) rfl (fun ls hl => ?_)
  exact lp_X7_tune_4 C hr hlk  I hp hst 17 0 0 u _ _ _ (by decide) (by decide) hI rfl hP hD hS (lv_sub hl [2, 1, 0] rfl)
theorem ln_X7_block_1 : Cond.fieldLink RX7 52 "BlockCardModel" "blocks" "I" ∈ wsX7_block := List.mem_of_getElem? (i := 1) rfl
theorem in_X7_block_7 : ∀ w ∈ wsX70, w ∈ wsX7_block := fun w h => List.mem_cons_of_mem _ (List.mem_append_right _ h)
theorem ln_X7_block_2 : Cond.constantLong RX7 261 (2) ∈ wsX7_block := List.mem_of_getElem? (i := 2) rfl
theorem ln_X7_block_5 : Cond.fieldLink RX7 56 "BlockCardModel" "size" "I" ∈ wsX7_block := List.mem_of_getElem? (i := 5) rfl
theorem ln_X7_block_4 : Cond.fieldLink RX7 16 "BlockCardModel" "torn" "[I" ∈ wsX7_block := List.mem_of_getElem? (i := 4) rfl
theorem ln_X7_block_3 : Cond.fieldLink RX7 13 "BlockCardModel" "content" "[I" ∈ wsX7_block := List.mem_of_getElem? (i := 3) rfl
set_option maxHeartbeats 4000000 in
set_option maxRecDepth 100000 in
theorem c_X7_block (l : Launch) (D : va_G) (cI cZ : ClassId) (ad : Nat → Nat) (u : ob_S) (x1 : Int32) (x2 : Int32) (hB : 1 ≤ (u.1 3).toInt ∧ (u.1 3).toInt ≤ 64) (hs : ¬ u.1 4 = 0) : Ct_p l yX7_block wsX7_block ({ frames := 1, cells := 0, slots := 0, locals := 25 } : Room) D (ct_T cI cZ) [.ref (ad 0), .int x1, .int x2] (w_7 cI ad u) (f_X7_block u x1 x2) := by
  refine en_p (cc := cX7_block) (maxL := 3) (ret := (some .int)) (own := RX7) (by decide +kernel) rfl rfl (Nat.le_of_ble_eq_true rfl) ?_
  intro p e s m args below meth c A ls C hr hlk hP hD hS hl
  have hx := C.1
  have hb := C.2.1
  have hl : lv_has ls 3 [(0, .ref (ad 0)), (1, .int x1), (2, .int x2)] := hl
  refine lv_iload_n hx hb dX7_block_0 rfl (lv_at hl 1 rfl) ?_
  refine lv_i2l hx hb dX7_block_1 rfl ?_
  refine lv_lconst (v := 0) hx hb dX7_block_2 (by decide) ?_
  refine lv_aload_n hx hb dX7_block_3 rfl (lv_at hl 0 rfl) ?_
  refine gt7_3 C hP in_X7_block_7 ln_X7_block_1 (v := (u.1 3)) rfl dX7_block_4 ?_
  refine lv_iconst (v := 1) hx hb dX7_block_7 (by decide) ?_
  refine lv_isub hx hb dX7_block_8 ?_
  refine lv_i2l hx hb dX7_block_9 rfl ?_
  refine ks_p C (c_X7_in l D cI cZ (Int32.toInt64 x1) 0 (Int32.toInt64 ((u.1 3) - 1)) ) (va_cwS 3 C.2.2.2.2.1 gX7_block_X7_in rfl rfl rfl hdX7_in ⟨Nat.le_of_ble_eq_true rfl, Nat.le_of_ble_eq_true rfl⟩) hP hD hS rfl hl.1 rfl (Nat.le_of_ble_eq_true rfl) dX7_block_10 ⟨Nat.zero_le _, Nat.zero_le _⟩ (fun H locs hP hS => ?_)
  refine lv_if_eq (tgt := 28) hx hb dX7_block_13 (by decide) (fun c_1 => ?_) (fun c_1 => ?_)
  · refine lv_iconst (v := (-1)) hx hb dX7_block_28 (by decide) ?_
    exact rt_p C hr hlk hS ((if_pos c_1).trans rfl) dX7_block_29
  · refine lv_iload_n hx hb dX7_block_16 rfl (lv_at hl 2 rfl) ?_
    refine lv_i2l hx hb dX7_block_17 rfl ?_
    refine lv_lconst (v := 0) hx hb dX7_block_18 (by decide) ?_
    refine lv_ldc2 (v := 2) hx hb C.2.2.2.1 (C.2.2.2.2.1 _ ln_X7_block_2) dX7_block_19 ?_
    refine ks_p C (c_X7_in l D cI cZ (Int32.toInt64 x2) 0 2 ) (va_cwS 3 C.2.2.2.2.1 gX7_block_X7_in rfl rfl rfl hdX7_in ⟨Nat.le_of_ble_eq_true rfl, Nat.le_of_ble_eq_true rfl⟩) hP hD hS rfl hl.1 rfl (Nat.le_of_ble_eq_true rfl) dX7_block_22 ⟨Nat.zero_le _, Nat.zero_le _⟩ (fun H locs hP hS => ?_)
    refine lv_if_ne (tgt := 30) hx hb dX7_block_25 (by decide) (fun c_2 => ?_) (fun c_2 => ?_)
    · refine lv_iload_n hx hb dX7_block_30 rfl (lv_at hl 2 rfl) ?_
      refine lv_if_ne (tgt := 43) hx hb dX7_block_31 (by decide) (fun c_3 => ?_) (fun c_3 => ?_)
      · refine lv_iload_n hx hb dX7_block_43 rfl (lv_at hl 2 rfl) ?_
        refine lv_iconst (v := 1) hx hb dX7_block_44 (by decide) ?_
        refine lv_icmp_ne (tgt := 57) hx hb dX7_block_45 (by decide) (fun c_4 => ?_) (fun c_4 => ?_)
        · refine lv_iload_n hx hb dX7_block_57 rfl (lv_at hl 1 rfl) ?_
          refine lv_aload_n hx hb dX7_block_58 rfl (lv_at hl 0 rfl) ?_
          refine gt7_4 C hP in_X7_block_7 ln_X7_block_5 (v := (u.1 4)) rfl dX7_block_59 ?_
          refine lv_idiv hx hb dX7_block_62 hs ?_
          exact rt_p C hr hlk hS ((if_neg c_1).trans ((if_neg c_2).trans ((if_neg c_3).trans ((if_neg c_4).trans rfl)))) dX7_block_63
        · refine lv_aload_n hx hb dX7_block_48 rfl (lv_at hl 0 rfl) ?_
          refine gt7_10 C hP in_X7_block_7 ln_X7_block_4 dX7_block_49 ?_
          refine lv_iload_n hx hb dX7_block_52 rfl (lv_at hl 1 rfl) ?_
          refine al7_10 C hP (bl_ix hB c_1) (v := (u.2 10 (Int32.toNatClampNeg x1))) rfl dX7_block_53 ?_
          refine lv_goto (tgt := 63) hx hb dX7_block_54 (by decide) ?_
          exact rt_p C hr hlk hS ((if_neg c_1).trans ((if_neg c_2).trans ((if_neg c_3).trans ((if_pos c_4).trans rfl)))) dX7_block_63
      · refine lv_aload_n hx hb dX7_block_34 rfl (lv_at hl 0 rfl) ?_
        refine gt7_9 C hP in_X7_block_7 ln_X7_block_3 dX7_block_35 ?_
        refine lv_iload_n hx hb dX7_block_38 rfl (lv_at hl 1 rfl) ?_
        refine al7_9 C hP (bl_ix hB c_1) (v := (u.2 9 (Int32.toNatClampNeg x1))) rfl dX7_block_39 ?_
        refine lv_goto (tgt := 63) hx hb dX7_block_40 (by decide) ?_
        exact rt_p C hr hlk hS ((if_neg c_1).trans ((if_neg c_2).trans ((if_pos c_3).trans rfl))) dX7_block_63
    · refine lv_iconst (v := (-1)) hx hb dX7_block_28 (by decide) ?_
      exact rt_p C hr hlk hS ((if_neg c_1).trans ((if_pos c_2).trans rfl)) dX7_block_29
theorem ln_X7_latest_1 : Cond.fieldLink RX7 74 "BlockCardModel" "latestMany" "I" ∈ wsX7_latest := List.mem_of_getElem? (i := 1) rfl
theorem in_X7_latest_7 : ∀ w ∈ wsX70, w ∈ wsX7_latest := fun w h => List.mem_cons_of_mem _ (List.mem_append_right _ h)
theorem ln_X7_latest_2 : Cond.fieldLink RX7 22 "BlockCardModel" "latest" "[I" ∈ wsX7_latest := List.mem_of_getElem? (i := 2) rfl
set_option maxHeartbeats 4000000 in
set_option maxRecDepth 100000 in
theorem c_X7_latest (l : Launch) (D : va_G) (cI cZ : ClassId) (ad : Nat → Nat) (u : ob_S) (x1 : Int32) (hL : (u.1 13).toInt ≤ 64) : Ct_p l yX7_latest wsX7_latest ({ frames := 0, cells := 0, slots := 0, locals := 0 } : Room) D (ct_T cI cZ) [.ref (ad 0), .int x1] (w_7 cI ad u) (f_X7_latest u x1) := by
  refine en_p (cc := cX7_latest) (maxL := 2) (ret := (some .int)) (own := RX7) (by decide +kernel) rfl rfl (Nat.le_of_ble_eq_true rfl) ?_
  intro p e s m args below meth c A ls C hr hlk hP hD hS hl
  have hx := C.1
  have hb := C.2.1
  have hl : lv_has ls 2 [(0, .ref (ad 0)), (1, .int x1)] := hl
  refine lv_iload_n hx hb dX7_latest_0 rfl (lv_at hl 1 rfl) ?_
  refine lv_if_ge (tgt := 6) hx hb dX7_latest_1 (by decide) (fun c_1 => ?_) (fun c_1 => ?_)
  · refine lv_iload_n hx hb dX7_latest_6 rfl (lv_at hl 1 rfl) ?_
    refine lv_aload_n hx hb dX7_latest_7 rfl (lv_at hl 0 rfl) ?_
    refine gt7_13 C hP in_X7_latest_7 ln_X7_latest_1 (v := (u.1 13)) rfl dX7_latest_8 ?_
    refine lv_icmp_ge (tgt := 23) hx hb dX7_latest_11 (by decide) (fun c_2 => ?_) (fun c_2 => ?_)
    · refine lv_bipush (v := (-4)) hx hb dX7_latest_23 (by decide) ?_
      exact rt_p C hr hlk hS ((if_pos c_1).trans ((if_pos c_2).trans rfl)) dX7_latest_25
    · refine lv_aload_n hx hb dX7_latest_14 rfl (lv_at hl 0 rfl) ?_
      refine gt7_14 C hP in_X7_latest_7 ln_X7_latest_2 dX7_latest_15 ?_
      refine lv_iload_n hx hb dX7_latest_18 rfl (lv_at hl 1 rfl) ?_
      refine al7_14 C hP (ix_c (n := 64) (le_k c_1 z_t) (by have h := nle_t c_2; omega)) (v := (u.2 14 (Int32.toNatClampNeg x1))) rfl dX7_latest_19 ?_
      refine lv_goto (tgt := 25) hx hb dX7_latest_20 (by decide) ?_
      exact rt_p C hr hlk hS ((if_pos c_1).trans ((if_neg c_2).trans rfl)) dX7_latest_25
  · refine lv_iconst (v := (-1)) hx hb dX7_latest_4 (by decide) ?_
    exact rt_p C hr hlk hS ((if_neg c_1).trans rfl) dX7_latest_5
theorem ln_X7_word_1 : Cond.fieldLink RX7 71 "BlockCardModel" "wordLong" "I" ∈ wsX7_word := List.mem_of_getElem? (i := 1) rfl
theorem in_X7_word_7 : ∀ w ∈ wsX70, w ∈ wsX7_word := fun w h => List.mem_cons_of_mem _ (List.mem_append_right _ h)
theorem ln_X7_word_2 : Cond.fieldLink RX7 19 "BlockCardModel" "word" "[I" ∈ wsX7_word := List.mem_of_getElem? (i := 2) rfl
set_option maxHeartbeats 4000000 in
set_option maxRecDepth 100000 in
theorem c_X7_word (l : Launch) (D : va_G) (cI cZ : ClassId) (ad : Nat → Nat) (u : ob_S) (x1 : Int32) (hw : (u.1 11).toInt ≤ 8) : Ct_p l yX7_word wsX7_word ({ frames := 0, cells := 0, slots := 0, locals := 0 } : Room) D (ct_T cI cZ) [.ref (ad 0), .int x1] (w_7 cI ad u) (f_X7_word u x1) := by
  refine en_p (cc := cX7_word) (maxL := 2) (ret := (some .int)) (own := RX7) (by decide +kernel) rfl rfl (Nat.le_of_ble_eq_true rfl) ?_
  intro p e s m args below meth c A ls C hr hlk hP hD hS hl
  have hx := C.1
  have hb := C.2.1
  have hl : lv_has ls 2 [(0, .ref (ad 0)), (1, .int x1)] := hl
  refine lv_iload_n hx hb dX7_word_0 rfl (lv_at hl 1 rfl) ?_
  refine lv_iconst (v := (-1)) hx hb dX7_word_1 (by decide) ?_
  refine lv_icmp_ge (tgt := 7) hx hb dX7_word_2 (by decide) (fun c_1 => ?_) (fun c_1 => ?_)
  · refine lv_iload_n hx hb dX7_word_7 rfl (lv_at hl 1 rfl) ?_
    refine lv_if_ge (tgt := 18) hx hb dX7_word_8 (by decide) (fun c_2 => ?_) (fun c_2 => ?_)
    · refine lv_iload_n hx hb dX7_word_18 rfl (lv_at hl 1 rfl) ?_
      refine lv_aload_n hx hb dX7_word_19 rfl (lv_at hl 0 rfl) ?_
      refine gt7_11 C hP in_X7_word_7 ln_X7_word_1 (v := (u.1 11)) rfl dX7_word_20 ?_
      refine lv_icmp_ge (tgt := 35) hx hb dX7_word_23 (by decide) (fun c_3 => ?_) (fun c_3 => ?_)
      · refine lv_bipush (v := (-4)) hx hb dX7_word_35 (by decide) ?_
        exact rt_p C hr hlk hS ((if_pos c_1).trans ((if_pos c_2).trans ((if_pos c_3).trans rfl))) dX7_word_37
      · refine lv_aload_n hx hb dX7_word_26 rfl (lv_at hl 0 rfl) ?_
        refine gt7_12 C hP in_X7_word_7 ln_X7_word_2 dX7_word_27 ?_
        refine lv_iload_n hx hb dX7_word_30 rfl (lv_at hl 1 rfl) ?_
        refine al7_12 C hP (ix_c (n := 8) (le_k c_2 z_t) (by have h := nle_t c_3; omega)) (v := (u.2 12 (Int32.toNatClampNeg x1))) rfl dX7_word_31 ?_
        refine lv_goto (tgt := 37) hx hb dX7_word_32 (by decide) ?_
        exact rt_p C hr hlk hS ((if_pos c_1).trans ((if_pos c_2).trans ((if_neg c_3).trans rfl))) dX7_word_37
    · refine lv_aload_n hx hb dX7_word_11 rfl (lv_at hl 0 rfl) ?_
      refine gt7_11 C hP in_X7_word_7 ln_X7_word_1 (v := (u.1 11)) rfl dX7_word_12 ?_
      refine lv_goto (tgt := 37) hx hb dX7_word_15 (by decide) ?_
      exact rt_p C hr hlk hS ((if_pos c_1).trans ((if_neg c_2).trans rfl)) dX7_word_37
  · refine lv_iconst (v := (-1)) hx hb dX7_word_5 (by decide) ?_
    exact rt_p C hr hlk hS ((if_neg c_1).trans rfl) dX7_word_6
theorem ln_X7_later_1 : Cond.constantLong RX7 261 (2) ∈ wsX7_later := List.mem_of_getElem? (i := 1) rfl
theorem ln_X7_later_2 : Cond.fieldLink RX7 106 "BlockCardModel" "laterMany" "I" ∈ wsX7_later := List.mem_of_getElem? (i := 2) rfl
theorem in_X7_later_7 : ∀ w ∈ wsX70, w ∈ wsX7_later := fun w h => List.mem_cons_of_mem _ (List.mem_append_right _ h)
theorem ln_X7_later_5 : Cond.fieldLink RX7 31 "BlockCardModel" "laterTicks" "[I" ∈ wsX7_later := List.mem_of_getElem? (i := 5) rfl
theorem ln_X7_later_4 : Cond.fieldLink RX7 28 "BlockCardModel" "laterContent" "[I" ∈ wsX7_later := List.mem_of_getElem? (i := 4) rfl
theorem ln_X7_later_3 : Cond.fieldLink RX7 25 "BlockCardModel" "laterBlock" "[I" ∈ wsX7_later := List.mem_of_getElem? (i := 3) rfl
set_option maxHeartbeats 4000000 in
set_option maxRecDepth 100000 in
theorem c_X7_later (l : Launch) (D : va_G) (cI cZ : ClassId) (ad : Nat → Nat) (u : ob_S) (x1 : Int32) (x2 : Int32) (hm : (u.1 23).toInt ≤ 2) : Ct_p l yX7_later wsX7_later ({ frames := 1, cells := 0, slots := 0, locals := 25 } : Room) D (ct_T cI cZ) [.ref (ad 0), .int x1, .int x2] (w_7 cI ad u) (f_X7_later u x1 x2) := by
  refine en_p (cc := cX7_later) (maxL := 3) (ret := (some .int)) (own := RX7) (by decide +kernel) rfl rfl (Nat.le_of_ble_eq_true rfl) ?_
  intro p e s m args below meth c A ls C hr hlk hP hD hS hl
  have hx := C.1
  have hb := C.2.1
  have hl : lv_has ls 3 [(0, .ref (ad 0)), (1, .int x1), (2, .int x2)] := hl
  refine lv_iload_n hx hb dX7_later_0 rfl (lv_at hl 1 rfl) ?_
  refine lv_iconst (v := (-1)) hx hb dX7_later_1 (by decide) ?_
  refine lv_icmp_lt (tgt := 17) hx hb dX7_later_2 (by decide) (fun c_1 => ?_) (fun c_1 => ?_)
  · refine lv_iconst (v := (-1)) hx hb dX7_later_17 (by decide) ?_
    exact rt_p C hr hlk hS ((if_pos c_1).trans rfl) dX7_later_18
  · refine lv_iload_n hx hb dX7_later_5 rfl (lv_at hl 2 rfl) ?_
    refine lv_i2l hx hb dX7_later_6 rfl ?_
    refine lv_lconst (v := 0) hx hb dX7_later_7 (by decide) ?_
    refine lv_ldc2 (v := 2) hx hb C.2.2.2.1 (C.2.2.2.2.1 _ ln_X7_later_1) dX7_later_8 ?_
    refine ks_p C (c_X7_in l D cI cZ (Int32.toInt64 x2) 0 2 ) (va_cwS 3 C.2.2.2.2.1 gX7_later_X7_in rfl rfl rfl hdX7_in ⟨Nat.le_of_ble_eq_true rfl, Nat.le_of_ble_eq_true rfl⟩) hP hD hS rfl hl.1 rfl (Nat.le_of_ble_eq_true rfl) dX7_later_11 ⟨Nat.zero_le _, Nat.zero_le _⟩ (fun H locs hP hS => ?_)
    refine lv_if_ne (tgt := 19) hx hb dX7_later_14 (by decide) (fun c_2 => ?_) (fun c_2 => ?_)
    · refine lv_iload_n hx hb dX7_later_19 rfl (lv_at hl 1 rfl) ?_
      refine lv_if_lt (tgt := 31) hx hb dX7_later_20 (by decide) (fun c_3 => ?_) (fun c_3 => ?_)
      · refine lv_iload_n hx hb dX7_later_31 rfl (lv_at hl 1 rfl) ?_
        refine lv_if_ge (tgt := 42) hx hb dX7_later_32 (by decide) (fun c_4 => ?_) (fun c_4 => ?_)
        · refine lv_bipush (v := (-4)) hx hb dX7_later_42 (by decide) ?_
          exact rt_p C hr hlk hS ((if_neg c_1).trans ((if_neg c_2).trans ((if_pos c_3).trans ((if_pos c_4).trans rfl)))) dX7_later_44
        · refine lv_aload_n hx hb dX7_later_35 rfl (lv_at hl 0 rfl) ?_
          refine gt7_23 C hP in_X7_later_7 ln_X7_later_2 (v := (u.1 23)) rfl dX7_later_36 ?_
          refine lv_goto (tgt := 44) hx hb dX7_later_39 (by decide) ?_
          exact rt_p C hr hlk hS ((if_neg c_1).trans ((if_neg c_2).trans ((if_pos c_3).trans ((if_neg c_4).trans rfl)))) dX7_later_44
      · refine lv_iload_n hx hb dX7_later_23 rfl (lv_at hl 1 rfl) ?_
        refine lv_aload_n hx hb dX7_later_24 rfl (lv_at hl 0 rfl) ?_
        refine gt7_23 C hP in_X7_later_7 ln_X7_later_2 (v := (u.1 23)) rfl dX7_later_25 ?_
        refine lv_icmp_lt (tgt := 45) hx hb dX7_later_28 (by decide) (fun c_5 => ?_) (fun c_5 => ?_)
        · refine lv_iload_n hx hb dX7_later_45 rfl (lv_at hl 2 rfl) ?_
          refine lv_if_ne (tgt := 58) hx hb dX7_later_46 (by decide) (fun c_6 => ?_) (fun c_6 => ?_)
          · refine lv_iload_n hx hb dX7_later_58 rfl (lv_at hl 2 rfl) ?_
            refine lv_iconst (v := 1) hx hb dX7_later_59 (by decide) ?_
            refine lv_icmp_ne (tgt := 72) hx hb dX7_later_60 (by decide) (fun c_7 => ?_) (fun c_7 => ?_)
            · refine lv_aload_n hx hb dX7_later_72 rfl (lv_at hl 0 rfl) ?_
              refine gt7_26 C hP in_X7_later_7 ln_X7_later_5 dX7_later_73 ?_
              refine lv_iload_n hx hb dX7_later_76 rfl (lv_at hl 1 rfl) ?_
              refine al7_26 C hP (ix_c (n := 2) (nlt_k c_3 z_t) (by have h := lt_t c_5; omega)) (v := (u.2 26 (Int32.toNatClampNeg x1))) rfl dX7_later_77 ?_
              exact rt_p C hr hlk hS ((if_neg c_1).trans ((if_neg c_2).trans ((if_neg c_3).trans ((if_pos c_5).trans ((if_neg c_6).trans ((if_neg c_7).trans rfl)))))) dX7_later_78
            · refine lv_aload_n hx hb dX7_later_63 rfl (lv_at hl 0 rfl) ?_
              refine gt7_25 C hP in_X7_later_7 ln_X7_later_4 dX7_later_64 ?_
              refine lv_iload_n hx hb dX7_later_67 rfl (lv_at hl 1 rfl) ?_
              refine al7_25 C hP (ix_c (n := 2) (nlt_k c_3 z_t) (by have h := lt_t c_5; omega)) (v := (u.2 25 (Int32.toNatClampNeg x1))) rfl dX7_later_68 ?_
              refine lv_goto (tgt := 78) hx hb dX7_later_69 (by decide) ?_
              exact rt_p C hr hlk hS ((if_neg c_1).trans ((if_neg c_2).trans ((if_neg c_3).trans ((if_pos c_5).trans ((if_neg c_6).trans ((if_pos c_7).trans rfl)))))) dX7_later_78
          · refine lv_aload_n hx hb dX7_later_49 rfl (lv_at hl 0 rfl) ?_
            refine gt7_24 C hP in_X7_later_7 ln_X7_later_3 dX7_later_50 ?_
            refine lv_iload_n hx hb dX7_later_53 rfl (lv_at hl 1 rfl) ?_
            refine al7_24 C hP (ix_c (n := 2) (nlt_k c_3 z_t) (by have h := lt_t c_5; omega)) (v := (u.2 24 (Int32.toNatClampNeg x1))) rfl dX7_later_54 ?_
            refine lv_goto (tgt := 78) hx hb dX7_later_55 (by decide) ?_
            exact rt_p C hr hlk hS ((if_neg c_1).trans ((if_neg c_2).trans ((if_neg c_3).trans ((if_pos c_5).trans ((if_pos c_6).trans rfl))))) dX7_later_78
        · refine lv_iload_n hx hb dX7_later_31 rfl (lv_at hl 1 rfl) ?_
          refine lv_if_ge (tgt := 42) hx hb dX7_later_32 (by decide) (fun c_8 => ?_) (fun c_8 => ?_)
          · refine lv_bipush (v := (-4)) hx hb dX7_later_42 (by decide) ?_
            exact rt_p C hr hlk hS ((if_neg c_1).trans ((if_neg c_2).trans ((if_neg c_3).trans ((if_neg c_5).trans ((if_pos c_8).trans rfl))))) dX7_later_44
          · refine lv_aload_n hx hb dX7_later_35 rfl (lv_at hl 0 rfl) ?_
            refine gt7_23 C hP in_X7_later_7 ln_X7_later_2 (v := (u.1 23)) rfl dX7_later_36 ?_
            refine lv_goto (tgt := 44) hx hb dX7_later_39 (by decide) ?_
            exact rt_p C hr hlk hS ((if_neg c_1).trans ((if_neg c_2).trans ((if_neg c_3).trans ((if_neg c_5).trans ((if_neg c_8).trans rfl))))) dX7_later_44
    · refine lv_iconst (v := (-1)) hx hb dX7_later_17 (by decide) ?_
      exact rt_p C hr hlk hS ((if_neg c_1).trans ((if_pos c_2).trans rfl)) dX7_later_18
theorem ln_X7_count_1 : Cond.fieldLink RX7 78 "BlockCardModel" "isOn" "Z" ∈ wsX7_count := List.mem_of_getElem? (i := 1) rfl
theorem in_X7_count_7 : ∀ w ∈ wsX70, w ∈ wsX7_count := fun w h => List.mem_cons_of_mem _ (List.mem_append_right _ h)
theorem ln_X7_count_2 : Cond.fieldLink RX7 85 "BlockCardModel" "state" "I" ∈ wsX7_count := List.mem_of_getElem? (i := 2) rfl
theorem ln_X7_count_3 : Cond.fieldLink RX7 52 "BlockCardModel" "blocks" "I" ∈ wsX7_count := List.mem_of_getElem? (i := 3) rfl
theorem ln_X7_count_4 : Cond.fieldLink RX7 56 "BlockCardModel" "size" "I" ∈ wsX7_count := List.mem_of_getElem? (i := 4) rfl
theorem ln_X7_count_5 : Cond.fieldLink RX7 68 "BlockCardModel" "well" "I" ∈ wsX7_count := List.mem_of_getElem? (i := 5) rfl
theorem ln_X7_count_6 : Cond.fieldLink RX7 65 "BlockCardModel" "ticks" "I" ∈ wsX7_count := List.mem_of_getElem? (i := 6) rfl
theorem ln_X7_count_7 : Cond.fieldLink RX7 152 "BlockCardModel" "heat" "I" ∈ wsX7_count := List.mem_of_getElem? (i := 7) rfl
theorem ln_X7_count_8 : Cond.fieldLink RX7 159 "BlockCardModel" "length" "I" ∈ wsX7_count := List.mem_of_getElem? (i := 8) rfl
theorem ln_X7_count_9 : Cond.fieldLink RX7 124 "BlockCardModel" "next" "I" ∈ wsX7_count := List.mem_of_getElem? (i := 9) rfl
theorem ln_X7_count_10 : Cond.fieldLink RX7 127 "BlockCardModel" "left" "I" ∈ wsX7_count := List.mem_of_getElem? (i := 10) rfl
set_option maxHeartbeats 4000000 in
set_option maxRecDepth 100000 in
theorem c_X7_count (l : Launch) (D : va_G) (cI cZ : ClassId) (ad : Nat → Nat) (u : ob_S) (x1 : Int32) (hB : (u.1 3).toInt ≤ 64) : Ct_p l yX7_count wsX7_count ({ frames := 1, cells := 0, slots := 0, locals := 23 } : Room) D (ct_T cI cZ) [.ref (ad 0), .int x1] (w_7 cI ad u) (f_X7_count u x1) := by
  refine en_p (cc := cX7_count) (maxL := 3) (ret := (some .int)) (own := RX7) (by decide +kernel) rfl rfl (Nat.le_of_ble_eq_true rfl) ?_
  intro p e s m args below meth c A ls C hr hlk hP hD hS hl
  have hx := C.1
  have hb := C.2.1
  have hl : lv_has ls 3 [(0, .ref (ad 0)), (1, .int x1)] := hl
  refine lv_aload_n hx hb dX7_count_0 rfl (lv_at hl 0 rfl) ?_
  refine gt7_15 C hP in_X7_count_7 ln_X7_count_1 (v := (u.1 15)) rfl dX7_count_1 ?_
  refine jn_i (g := fun x => F0 m 29 ls (.int x :: [])) ((if (u.1 15) = 0 then 0 else (if (u.1 16) = 5 then 1 else (if (u.1 16) = 6 then 1 else 0)))) (fun y_1 ey_1 => ?_) (fun J_1 => ?_)
  · refine lv_istore_n (lv' := [(2, .int _), (0, .ref _), (1, .int _)]) hx hb dX7_count_29 rfl hl (by decide) rfl (fun ls hl => ?_)
    refine lv_iload_n hx hb dX7_count_30 rfl (lv_at hl 2 rfl) ?_
    by_cases s_5 : x1 = 0
    · refine lv_tableIn (tgt := 120) hx hb dX7_count_31 (by rw [s_5]; decide) (by rw [s_5]; decide) (by rw [s_5]; rfl) (by decide) ?_
      refine lv_aload_n hx hb dX7_count_120 rfl (lv_at hl 1 rfl) ?_
      refine gt7_3 C hP in_X7_count_7 ln_X7_count_3 (v := (u.1 3)) rfl dX7_count_121 ?_
      subst ey_1
      exact rt_p C hr hlk hS ((if_pos s_5).trans rfl) dX7_count_124
    by_cases s_6 : x1 = 1
    · refine lv_tableIn (tgt := 125) hx hb dX7_count_31 (by rw [s_6]; decide) (by rw [s_6]; decide) (by rw [s_6]; rfl) (by decide) ?_
      refine lv_aload_n hx hb dX7_count_125 rfl (lv_at hl 1 rfl) ?_
      refine gt7_4 C hP in_X7_count_7 ln_X7_count_4 (v := (u.1 4)) rfl dX7_count_126 ?_
      subst ey_1
      exact rt_p C hr hlk hS ((if_neg s_5).trans ((if_pos s_6).trans rfl)) dX7_count_129
    by_cases s_7 : x1 = 2
    · refine lv_tableIn (tgt := 130) hx hb dX7_count_31 (by rw [s_7]; decide) (by rw [s_7]; decide) (by rw [s_7]; rfl) (by decide) ?_
      refine lv_aload_n hx hb dX7_count_130 rfl (lv_at hl 1 rfl) ?_
      refine gt7_15 C hP in_X7_count_7 ln_X7_count_1 (v := (u.1 15)) rfl dX7_count_131 ?_
      refine lv_if_eq (tgt := 144) hx hb dX7_count_134 (by decide) (fun c_8 => ?_) (fun c_8 => ?_)
      · refine lv_bipush (v := (-4)) hx hb dX7_count_144 (by decide) ?_
        subst ey_1
        exact rt_p C hr hlk hS ((if_neg s_5).trans ((if_neg s_6).trans ((if_pos s_7).trans ((if_pos c_8).trans rfl)))) dX7_count_146
      · refine lv_aload_n hx hb dX7_count_137 rfl (lv_at hl 1 rfl) ?_
        refine gt7_16 C hP in_X7_count_7 ln_X7_count_2 (v := (u.1 16)) rfl dX7_count_138 ?_
        refine lv_goto (tgt := 146) hx hb dX7_count_141 (by decide) ?_
        subst ey_1
        exact rt_p C hr hlk hS ((if_neg s_5).trans ((if_neg s_6).trans ((if_pos s_7).trans ((if_neg c_8).trans rfl)))) dX7_count_146
    by_cases s_9 : x1 = 3
    · refine lv_tableIn (tgt := 147) hx hb dX7_count_31 (by rw [s_9]; decide) (by rw [s_9]; decide) (by rw [s_9]; rfl) (by decide) ?_
      refine lv_aload_n hx hb dX7_count_147 rfl (lv_at hl 1 rfl) ?_
      refine lv_iload_n hx hb dX7_count_148 rfl (lv_at hl 2 rfl) ?_
      refine kv_p C (c_X7_countPower l D cI cZ ad u x1 ) (cwV 1 C.2.2.2.2.1 gX7_count_X7_countPower rfl rfl rfl hdX7_countPower ⟨Nat.le_of_ble_eq_true rfl, Nat.le_of_ble_eq_true rfl⟩) (ci := 7) (q0 := 0) rfl rfl rfl hP hD hS (su_self _) rfl hl.1 rfl (Nat.le_of_ble_eq_true rfl) dX7_count_149 ⟨Nat.zero_le _, Nat.zero_le _⟩ (fun H locs hP hS => ?_)
      subst ey_1
      exact rt_p C hr hlk hS ((if_neg s_5).trans ((if_neg s_6).trans ((if_neg s_7).trans ((if_pos s_9).trans rfl)))) dX7_count_152
    by_cases s_10 : x1 = 4
    · refine lv_tableIn (tgt := 147) hx hb dX7_count_31 (by rw [s_10]; decide) (by rw [s_10]; decide) (by rw [s_10]; rfl) (by decide) ?_
      refine lv_aload_n hx hb dX7_count_147 rfl (lv_at hl 1 rfl) ?_
      refine lv_iload_n hx hb dX7_count_148 rfl (lv_at hl 2 rfl) ?_
      refine kv_p C (c_X7_countPower l D cI cZ ad u x1 ) (cwV 1 C.2.2.2.2.1 gX7_count_X7_countPower rfl rfl rfl hdX7_countPower ⟨Nat.le_of_ble_eq_true rfl, Nat.le_of_ble_eq_true rfl⟩) (ci := 7) (q0 := 0) rfl rfl rfl hP hD hS (su_self _) rfl hl.1 rfl (Nat.le_of_ble_eq_true rfl) dX7_count_149 ⟨Nat.zero_le _, Nat.zero_le _⟩ (fun H locs hP hS => ?_)
      subst ey_1
      exact rt_p C hr hlk hS ((if_neg s_5).trans ((if_neg s_6).trans ((if_neg s_7).trans ((if_neg s_9).trans ((if_pos s_10).trans rfl))))) dX7_count_152
    by_cases s_11 : x1 = 5
    · refine lv_tableIn (tgt := 147) hx hb dX7_count_31 (by rw [s_11]; decide) (by rw [s_11]; decide) (by rw [s_11]; rfl) (by decide) ?_
      refine lv_aload_n hx hb dX7_count_147 rfl (lv_at hl 1 rfl) ?_
      refine lv_iload_n hx hb dX7_count_148 rfl (lv_at hl 2 rfl) ?_
      refine kv_p C (c_X7_countPower l D cI cZ ad u x1 ) (cwV 1 C.2.2.2.2.1 gX7_count_X7_countPower rfl rfl rfl hdX7_countPower ⟨Nat.le_of_ble_eq_true rfl, Nat.le_of_ble_eq_true rfl⟩) (ci := 7) (q0 := 0) rfl rfl rfl hP hD hS (su_self _) rfl hl.1 rfl (Nat.le_of_ble_eq_true rfl) dX7_count_149 ⟨Nat.zero_le _, Nat.zero_le _⟩ (fun H locs hP hS => ?_)
      subst ey_1
      exact rt_p C hr hlk hS ((if_neg s_5).trans ((if_neg s_6).trans ((if_neg s_7).trans ((if_neg s_9).trans ((if_neg s_10).trans ((if_pos s_11).trans rfl)))))) dX7_count_152
    by_cases s_12 : x1 = 6
    · refine lv_tableIn (tgt := 147) hx hb dX7_count_31 (by rw [s_12]; decide) (by rw [s_12]; decide) (by rw [s_12]; rfl) (by decide) ?_
      refine lv_aload_n hx hb dX7_count_147 rfl (lv_at hl 1 rfl) ?_
      refine lv_iload_n hx hb dX7_count_148 rfl (lv_at hl 2 rfl) ?_
      refine kv_p C (c_X7_countPower l D cI cZ ad u x1 ) (cwV 1 C.2.2.2.2.1 gX7_count_X7_countPower rfl rfl rfl hdX7_countPower ⟨Nat.le_of_ble_eq_true rfl, Nat.le_of_ble_eq_true rfl⟩) (ci := 7) (q0 := 0) rfl rfl rfl hP hD hS (su_self _) rfl hl.1 rfl (Nat.le_of_ble_eq_true rfl) dX7_count_149 ⟨Nat.zero_le _, Nat.zero_le _⟩ (fun H locs hP hS => ?_)
      subst ey_1
      exact rt_p C hr hlk hS ((if_neg s_5).trans ((if_neg s_6).trans ((if_neg s_7).trans ((if_neg s_9).trans ((if_neg s_10).trans ((if_neg s_11).trans ((if_pos s_12).trans rfl))))))) dX7_count_152
    by_cases s_13 : x1 = 7
    · refine lv_tableIn (tgt := 147) hx hb dX7_count_31 (by rw [s_13]; decide) (by rw [s_13]; decide) (by rw [s_13]; rfl) (by decide) ?_
      refine lv_aload_n hx hb dX7_count_147 rfl (lv_at hl 1 rfl) ?_
      refine lv_iload_n hx hb dX7_count_148 rfl (lv_at hl 2 rfl) ?_
      refine kv_p C (c_X7_countPower l D cI cZ ad u x1 ) (cwV 1 C.2.2.2.2.1 gX7_count_X7_countPower rfl rfl rfl hdX7_countPower ⟨Nat.le_of_ble_eq_true rfl, Nat.le_of_ble_eq_true rfl⟩) (ci := 7) (q0 := 0) rfl rfl rfl hP hD hS (su_self _) rfl hl.1 rfl (Nat.le_of_ble_eq_true rfl) dX7_count_149 ⟨Nat.zero_le _, Nat.zero_le _⟩ (fun H locs hP hS => ?_)
      subst ey_1
      exact rt_p C hr hlk hS ((if_neg s_5).trans ((if_neg s_6).trans ((if_neg s_7).trans ((if_neg s_9).trans ((if_neg s_10).trans ((if_neg s_11).trans ((if_neg s_12).trans ((if_pos s_13).trans rfl)))))))) dX7_count_152
    by_cases s_14 : x1 = 8
    · refine lv_tableIn (tgt := 147) hx hb dX7_count_31 (by rw [s_14]; decide) (by rw [s_14]; decide) (by rw [s_14]; rfl) (by decide) ?_
      refine lv_aload_n hx hb dX7_count_147 rfl (lv_at hl 1 rfl) ?_
      refine lv_iload_n hx hb dX7_count_148 rfl (lv_at hl 2 rfl) ?_
      refine kv_p C (c_X7_countPower l D cI cZ ad u x1 ) (cwV 1 C.2.2.2.2.1 gX7_count_X7_countPower rfl rfl rfl hdX7_countPower ⟨Nat.le_of_ble_eq_true rfl, Nat.le_of_ble_eq_true rfl⟩) (ci := 7) (q0 := 0) rfl rfl rfl hP hD hS (su_self _) rfl hl.1 rfl (Nat.le_of_ble_eq_true rfl) dX7_count_149 ⟨Nat.zero_le _, Nat.zero_le _⟩ (fun H locs hP hS => ?_)
      subst ey_1
      exact rt_p C hr hlk hS ((if_neg s_5).trans ((if_neg s_6).trans ((if_neg s_7).trans ((if_neg s_9).trans ((if_neg s_10).trans ((if_neg s_11).trans ((if_neg s_12).trans ((if_neg s_13).trans ((if_pos s_14).trans rfl))))))))) dX7_count_152
    by_cases s_15 : x1 = 9
    · refine lv_tableIn (tgt := 153) hx hb dX7_count_31 (by rw [s_15]; decide) (by rw [s_15]; decide) (by rw [s_15]; rfl) (by decide) ?_
      refine lv_aload_n hx hb dX7_count_153 rfl (lv_at hl 1 rfl) ?_
      refine gt7_8 C hP in_X7_count_7 ln_X7_count_5 (v := (u.1 8)) rfl dX7_count_154 ?_
      subst ey_1
      exact rt_p C hr hlk hS ((if_neg s_5).trans ((if_neg s_6).trans ((if_neg s_7).trans ((if_neg s_9).trans ((if_neg s_10).trans ((if_neg s_11).trans ((if_neg s_12).trans ((if_neg s_13).trans ((if_neg s_14).trans ((if_pos s_15).trans rfl)))))))))) dX7_count_157
    by_cases s_16 : x1 = 10
    · refine lv_tableIn (tgt := 147) hx hb dX7_count_31 (by rw [s_16]; decide) (by rw [s_16]; decide) (by rw [s_16]; rfl) (by decide) ?_
      refine lv_aload_n hx hb dX7_count_147 rfl (lv_at hl 1 rfl) ?_
      refine lv_iload_n hx hb dX7_count_148 rfl (lv_at hl 2 rfl) ?_
      refine kv_p C (c_X7_countPower l D cI cZ ad u x1 ) (cwV 1 C.2.2.2.2.1 gX7_count_X7_countPower rfl rfl rfl hdX7_countPower ⟨Nat.le_of_ble_eq_true rfl, Nat.le_of_ble_eq_true rfl⟩) (ci := 7) (q0 := 0) rfl rfl rfl hP hD hS (su_self _) rfl hl.1 rfl (Nat.le_of_ble_eq_true rfl) dX7_count_149 ⟨Nat.zero_le _, Nat.zero_le _⟩ (fun H locs hP hS => ?_)
      subst ey_1
      exact rt_p C hr hlk hS ((if_neg s_5).trans ((if_neg s_6).trans ((if_neg s_7).trans ((if_neg s_9).trans ((if_neg s_10).trans ((if_neg s_11).trans ((if_neg s_12).trans ((if_neg s_13).trans ((if_neg s_14).trans ((if_neg s_15).trans ((if_pos s_16).trans rfl))))))))))) dX7_count_152
    by_cases s_17 : x1 = 11
    · refine lv_tableIn (tgt := 158) hx hb dX7_count_31 (by rw [s_17]; decide) (by rw [s_17]; decide) (by rw [s_17]; rfl) (by decide) ?_
      refine lv_aload_n hx hb dX7_count_158 rfl (lv_at hl 1 rfl) ?_
      refine lv_iconst (v := 1) hx hb dX7_count_159 (by decide) ?_
      refine kv_p C (c_X7_blocksThat l D cI cZ ad u 1 hB) (cwV 1 C.2.2.2.2.1 gX7_count_X7_blocksThat rfl rfl rfl hdX7_blocksThat ⟨Nat.le_of_ble_eq_true rfl, Nat.le_of_ble_eq_true rfl⟩) (ci := 7) (q0 := 0) rfl rfl rfl hP hD hS (su_self _) rfl hl.1 rfl (Nat.le_of_ble_eq_true rfl) dX7_count_160 ⟨Nat.zero_le _, Nat.zero_le _⟩ (fun H locs hP hS => ?_)
      subst ey_1
      exact rt_p C hr hlk hS ((if_neg s_5).trans ((if_neg s_6).trans ((if_neg s_7).trans ((if_neg s_9).trans ((if_neg s_10).trans ((if_neg s_11).trans ((if_neg s_12).trans ((if_neg s_13).trans ((if_neg s_14).trans ((if_neg s_15).trans ((if_neg s_16).trans ((if_pos s_17).trans rfl)))))))))))) dX7_count_163
    by_cases s_18 : x1 = 12
    · refine lv_tableIn (tgt := 164) hx hb dX7_count_31 (by rw [s_18]; decide) (by rw [s_18]; decide) (by rw [s_18]; rfl) (by decide) ?_
      refine lv_aload_n hx hb dX7_count_164 rfl (lv_at hl 1 rfl) ?_
      refine gt7_7 C hP in_X7_count_7 ln_X7_count_6 (v := (u.1 7)) rfl dX7_count_165 ?_
      subst ey_1
      exact rt_p C hr hlk hS ((if_neg s_5).trans ((if_neg s_6).trans ((if_neg s_7).trans ((if_neg s_9).trans ((if_neg s_10).trans ((if_neg s_11).trans ((if_neg s_12).trans ((if_neg s_13).trans ((if_neg s_14).trans ((if_neg s_15).trans ((if_neg s_16).trans ((if_neg s_17).trans ((if_pos s_18).trans rfl))))))))))))) dX7_count_168
    by_cases s_19 : x1 = 13
    · refine lv_tableIn (tgt := 169) hx hb dX7_count_31 (by rw [s_19]; decide) (by rw [s_19]; decide) (by rw [s_19]; rfl) (by decide) ?_
      refine lv_aload_n hx hb dX7_count_169 rfl (lv_at hl 1 rfl) ?_
      refine gt7_2 C hP in_X7_count_7 ln_X7_count_7 (v := (u.1 2)) rfl dX7_count_170 ?_
      subst ey_1
      exact rt_p C hr hlk hS ((if_neg s_5).trans ((if_neg s_6).trans ((if_neg s_7).trans ((if_neg s_9).trans ((if_neg s_10).trans ((if_neg s_11).trans ((if_neg s_12).trans ((if_neg s_13).trans ((if_neg s_14).trans ((if_neg s_15).trans ((if_neg s_16).trans ((if_neg s_17).trans ((if_neg s_18).trans ((if_pos s_19).trans rfl)))))))))))))) dX7_count_173
    by_cases s_20 : x1 = 14
    · refine lv_tableIn (tgt := 174) hx hb dX7_count_31 (by rw [s_20]; decide) (by rw [s_20]; decide) (by rw [s_20]; rfl) (by decide) ?_
      refine lv_aload_n hx hb dX7_count_174 rfl (lv_at hl 1 rfl) ?_
      refine gt7_0 C hP in_X7_count_7 ln_X7_count_8 (v := (u.1 0)) rfl dX7_count_175 ?_
      subst ey_1
      exact rt_p C hr hlk hS ((if_neg s_5).trans ((if_neg s_6).trans ((if_neg s_7).trans ((if_neg s_9).trans ((if_neg s_10).trans ((if_neg s_11).trans ((if_neg s_12).trans ((if_neg s_13).trans ((if_neg s_14).trans ((if_neg s_15).trans ((if_neg s_16).trans ((if_neg s_17).trans ((if_neg s_18).trans ((if_neg s_19).trans ((if_pos s_20).trans rfl))))))))))))))) dX7_count_178
    by_cases s_21 : x1 = 15
    · refine lv_tableIn (tgt := 179) hx hb dX7_count_31 (by rw [s_21]; decide) (by rw [s_21]; decide) (by rw [s_21]; rfl) (by decide) ?_
      refine lv_iload_n hx hb dX7_count_179 rfl (lv_at hl 0 rfl) ?_
      refine lv_if_eq (tgt := 201) hx hb dX7_count_180 (by decide) (fun c_22 => ?_) (fun c_22 => ?_)
      · refine lv_bipush (v := (-4)) hx hb dX7_count_201 (by decide) ?_
        subst ey_1
        exact rt_p C hr hlk hS ((if_neg s_5).trans ((if_neg s_6).trans ((if_neg s_7).trans ((if_neg s_9).trans ((if_neg s_10).trans ((if_neg s_11).trans ((if_neg s_12).trans ((if_neg s_13).trans ((if_neg s_14).trans ((if_neg s_15).trans ((if_neg s_16).trans ((if_neg s_17).trans ((if_neg s_18).trans ((if_neg s_19).trans ((if_neg s_20).trans ((if_pos s_21).trans ((if_pos c_22).trans rfl))))))))))))))))) dX7_count_203
      · refine lv_aload_n hx hb dX7_count_183 rfl (lv_at hl 1 rfl) ?_
        refine gt7_35 C hP in_X7_count_7 ln_X7_count_9 (v := (u.1 35)) rfl dX7_count_184 ?_
        refine lv_aload_n hx hb dX7_count_187 rfl (lv_at hl 1 rfl) ?_
        refine gt7_3 C hP in_X7_count_7 ln_X7_count_3 (v := (u.1 3)) rfl dX7_count_188 ?_
        refine lv_icmp_ge (tgt := 201) hx hb dX7_count_191 (by decide) (fun c_23 => ?_) (fun c_23 => ?_)
        · refine lv_bipush (v := (-4)) hx hb dX7_count_201 (by decide) ?_
          subst ey_1
          exact rt_p C hr hlk hS ((if_neg s_5).trans ((if_neg s_6).trans ((if_neg s_7).trans ((if_neg s_9).trans ((if_neg s_10).trans ((if_neg s_11).trans ((if_neg s_12).trans ((if_neg s_13).trans ((if_neg s_14).trans ((if_neg s_15).trans ((if_neg s_16).trans ((if_neg s_17).trans ((if_neg s_18).trans ((if_neg s_19).trans ((if_neg s_20).trans ((if_pos s_21).trans ((if_neg c_22).trans ((if_pos c_23).trans rfl)))))))))))))))))) dX7_count_203
        · refine lv_aload_n hx hb dX7_count_194 rfl (lv_at hl 1 rfl) ?_
          refine gt7_35 C hP in_X7_count_7 ln_X7_count_9 (v := (u.1 35)) rfl dX7_count_195 ?_
          refine lv_goto (tgt := 203) hx hb dX7_count_198 (by decide) ?_
          subst ey_1
          exact rt_p C hr hlk hS ((if_neg s_5).trans ((if_neg s_6).trans ((if_neg s_7).trans ((if_neg s_9).trans ((if_neg s_10).trans ((if_neg s_11).trans ((if_neg s_12).trans ((if_neg s_13).trans ((if_neg s_14).trans ((if_neg s_15).trans ((if_neg s_16).trans ((if_neg s_17).trans ((if_neg s_18).trans ((if_neg s_19).trans ((if_neg s_20).trans ((if_pos s_21).trans ((if_neg c_22).trans ((if_neg c_23).trans rfl)))))))))))))))))) dX7_count_203
    by_cases s_24 : x1 = 16
    · refine lv_tableIn (tgt := 204) hx hb dX7_count_31 (by rw [s_24]; decide) (by rw [s_24]; decide) (by rw [s_24]; rfl) (by decide) ?_
      refine lv_iload_n hx hb dX7_count_204 rfl (lv_at hl 0 rfl) ?_
      refine lv_if_eq (tgt := 215) hx hb dX7_count_205 (by decide) (fun c_25 => ?_) (fun c_25 => ?_)
      · refine lv_bipush (v := (-4)) hx hb dX7_count_215 (by decide) ?_
        subst ey_1
        exact rt_p C hr hlk hS ((if_neg s_5).trans ((if_neg s_6).trans ((if_neg s_7).trans ((if_neg s_9).trans ((if_neg s_10).trans ((if_neg s_11).trans ((if_neg s_12).trans ((if_neg s_13).trans ((if_neg s_14).trans ((if_neg s_15).trans ((if_neg s_16).trans ((if_neg s_17).trans ((if_neg s_18).trans ((if_neg s_19).trans ((if_neg s_20).trans ((if_neg s_21).trans ((if_pos s_24).trans ((if_pos c_25).trans rfl)))))))))))))))))) dX7_count_217
      · refine lv_aload_n hx hb dX7_count_208 rfl (lv_at hl 1 rfl) ?_
        refine gt7_36 C hP in_X7_count_7 ln_X7_count_10 (v := (u.1 36)) rfl dX7_count_209 ?_
        refine lv_goto (tgt := 217) hx hb dX7_count_212 (by decide) ?_
        subst ey_1
        exact rt_p C hr hlk hS ((if_neg s_5).trans ((if_neg s_6).trans ((if_neg s_7).trans ((if_neg s_9).trans ((if_neg s_10).trans ((if_neg s_11).trans ((if_neg s_12).trans ((if_neg s_13).trans ((if_neg s_14).trans ((if_neg s_15).trans ((if_neg s_16).trans ((if_neg s_17).trans ((if_neg s_18).trans ((if_neg s_19).trans ((if_neg s_20).trans ((if_neg s_21).trans ((if_pos s_24).trans ((if_neg c_25).trans rfl)))))))))))))))))) dX7_count_217
    by_cases s_26 : x1 = 17
    · refine lv_tableIn (tgt := 218) hx hb dX7_count_31 (by rw [s_26]; decide) (by rw [s_26]; decide) (by rw [s_26]; rfl) (by decide) ?_
      refine lv_aload_n hx hb dX7_count_218 rfl (lv_at hl 1 rfl) ?_
      refine lv_iconst (v := 0) hx hb dX7_count_219 (by decide) ?_
      refine kv_p C (c_X7_blocksThat l D cI cZ ad u 0 hB) (cwV 1 C.2.2.2.2.1 gX7_count_X7_blocksThat rfl rfl rfl hdX7_blocksThat ⟨Nat.le_of_ble_eq_true rfl, Nat.le_of_ble_eq_true rfl⟩) (ci := 7) (q0 := 0) rfl rfl rfl hP hD hS (su_self _) rfl hl.1 rfl (Nat.le_of_ble_eq_true rfl) dX7_count_220 ⟨Nat.zero_le _, Nat.zero_le _⟩ (fun H locs hP hS => ?_)
      subst ey_1
      exact rt_p C hr hlk hS ((if_neg s_5).trans ((if_neg s_6).trans ((if_neg s_7).trans ((if_neg s_9).trans ((if_neg s_10).trans ((if_neg s_11).trans ((if_neg s_12).trans ((if_neg s_13).trans ((if_neg s_14).trans ((if_neg s_15).trans ((if_neg s_16).trans ((if_neg s_17).trans ((if_neg s_18).trans ((if_neg s_19).trans ((if_neg s_20).trans ((if_neg s_21).trans ((if_neg s_24).trans ((if_pos s_26).trans rfl)))))))))))))))))) dX7_count_223
    by_cases s_27 : x1 = 18
    · refine lv_tableIn (tgt := 224) hx hb dX7_count_31 (by rw [s_27]; decide) (by rw [s_27]; decide) (by rw [s_27]; rfl) (by decide) ?_
      refine lv_aload_n hx hb dX7_count_224 rfl (lv_at hl 1 rfl) ?_
      refine kv_p C (c_X7_isInWindow l D cI cZ ad u  ) (cwV 0 C.2.2.2.2.1 gX7_count_X7_isInWindow rfl rfl rfl hdX7_isInWindow ⟨Nat.le_of_ble_eq_true rfl, Nat.le_of_ble_eq_true rfl⟩) (ci := 7) (q0 := 0) rfl rfl rfl hP hD hS (su_self _) rfl hl.1 rfl (Nat.le_of_ble_eq_true rfl) dX7_count_225 ⟨Nat.zero_le _, Nat.zero_le _⟩ (fun H locs hP hS => ?_)
      refine lv_if_eq (tgt := 235) hx hb dX7_count_228 (by decide) (fun c_28 => ?_) (fun c_28 => ?_)
      · refine lv_iconst (v := 0) hx hb dX7_count_235 (by decide) ?_
        subst ey_1
        exact rt_p C hr hlk hS ((if_neg s_5).trans ((if_neg s_6).trans ((if_neg s_7).trans ((if_neg s_9).trans ((if_neg s_10).trans ((if_neg s_11).trans ((if_neg s_12).trans ((if_neg s_13).trans ((if_neg s_14).trans ((if_neg s_15).trans ((if_neg s_16).trans ((if_neg s_17).trans ((if_neg s_18).trans ((if_neg s_19).trans ((if_neg s_20).trans ((if_neg s_21).trans ((if_neg s_24).trans ((if_neg s_26).trans ((if_pos s_27).trans ((if_pos c_28).trans rfl)))))))))))))))))))) dX7_count_236
      · refine lv_iconst (v := 1) hx hb dX7_count_231 (by decide) ?_
        refine lv_goto (tgt := 236) hx hb dX7_count_232 (by decide) ?_
        subst ey_1
        exact rt_p C hr hlk hS ((if_neg s_5).trans ((if_neg s_6).trans ((if_neg s_7).trans ((if_neg s_9).trans ((if_neg s_10).trans ((if_neg s_11).trans ((if_neg s_12).trans ((if_neg s_13).trans ((if_neg s_14).trans ((if_neg s_15).trans ((if_neg s_16).trans ((if_neg s_17).trans ((if_neg s_18).trans ((if_neg s_19).trans ((if_neg s_20).trans ((if_neg s_21).trans ((if_neg s_24).trans ((if_neg s_26).trans ((if_pos s_27).trans ((if_neg c_28).trans rfl)))))))))))))))))))) dX7_count_236
    refine tb_any (tgt := 237) hx hb dX7_count_31 ?_ (by decide) ?_
    · have q0 := lv_neT s_5 (a := 0) rfl
      have q1 := lv_neT s_6 (a := 1) rfl
      have q2 := lv_neT s_7 (a := 2) rfl
      have q3 := lv_neT s_9 (a := 3) rfl
      have q4 := lv_neT s_10 (a := 4) rfl
      have q5 := lv_neT s_11 (a := 5) rfl
      have q6 := lv_neT s_12 (a := 6) rfl
      have q7 := lv_neT s_13 (a := 7) rfl
      have q8 := lv_neT s_14 (a := 8) rfl
      have q9 := lv_neT s_15 (a := 9) rfl
      have q10 := lv_neT s_16 (a := 10) rfl
      have q11 := lv_neT s_17 (a := 11) rfl
      have q12 := lv_neT s_18 (a := 12) rfl
      have q13 := lv_neT s_19 (a := 13) rfl
      have q14 := lv_neT s_20 (a := 14) rfl
      have q15 := lv_neT s_21 (a := 15) rfl
      have q16 := lv_neT s_24 (a := 16) rfl
      have q17 := lv_neT s_26 (a := 17) rfl
      have q18 := lv_neT s_27 (a := 18) rfl
      rcases (show (x1.toInt < 0 ∨ 18 < x1.toInt) by omega) with h
      · exact Or.inl h
    · refine lv_iconst (v := (-1)) hx hb dX7_count_237 (by decide) ?_
      subst ey_1
      exact rt_p C hr hlk hS ((if_neg s_5).trans ((if_neg s_6).trans ((if_neg s_7).trans ((if_neg s_9).trans ((if_neg s_10).trans ((if_neg s_11).trans ((if_neg s_12).trans ((if_neg s_13).trans ((if_neg s_14).trans ((if_neg s_15).trans ((if_neg s_16).trans ((if_neg s_17).trans ((if_neg s_18).trans ((if_neg s_19).trans ((if_neg s_20).trans ((if_neg s_21).trans ((if_neg s_24).trans ((if_neg s_26).trans ((if_neg s_27).trans rfl))))))))))))))))))) dX7_count_238
  · refine lv_if_eq (tgt := 28) hx hb dX7_count_4 (by decide) (fun c_2 => ?_) (fun c_2 => ?_)
    · refine lv_iconst (v := 0) hx hb dX7_count_28 (by decide) ?_
      exact J_1 _ ((if_pos c_2).trans rfl).symm
    · refine lv_aload_n hx hb dX7_count_7 rfl (lv_at hl 0 rfl) ?_
      refine gt7_16 C hP in_X7_count_7 ln_X7_count_2 (v := (u.1 16)) rfl dX7_count_8 ?_
      refine lv_iconst (v := 5) hx hb dX7_count_11 (by decide) ?_
      refine lv_icmp_eq (tgt := 24) hx hb dX7_count_12 (by decide) (fun c_3 => ?_) (fun c_3 => ?_)
      · refine lv_iconst (v := 1) hx hb dX7_count_24 (by decide) ?_
        refine lv_goto (tgt := 29) hx hb dX7_count_25 (by decide) ?_
        exact J_1 _ ((if_neg c_2).trans ((if_pos c_3).trans rfl)).symm
      · refine lv_aload_n hx hb dX7_count_15 rfl (lv_at hl 0 rfl) ?_
        refine gt7_16 C hP in_X7_count_7 ln_X7_count_2 (v := (u.1 16)) rfl dX7_count_16 ?_
        refine lv_bipush (v := 6) hx hb dX7_count_19 (by decide) ?_
        refine lv_icmp_ne (tgt := 28) hx hb dX7_count_21 (by decide) (fun c_4 => ?_) (fun c_4 => ?_)
        · refine lv_iconst (v := 0) hx hb dX7_count_28 (by decide) ?_
          exact J_1 _ ((if_neg c_2).trans ((if_neg c_3).trans ((if_neg c_4).trans rfl))).symm
        · refine lv_iconst (v := 1) hx hb dX7_count_24 (by decide) ?_
          refine lv_goto (tgt := 29) hx hb dX7_count_25 (by decide) ?_
          exact J_1 _ ((if_neg c_2).trans ((if_neg c_3).trans ((if_pos c_4).trans rfl))).symm
