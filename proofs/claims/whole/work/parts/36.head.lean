def R_law : String := "BlockCardLaw"
def lw_P (b : Addr) (xs : List Int32) (args : Array Value) (s : State) : Prop := args = #[.ref b] ∧ s.IntsAt b xs ∧ xs.length ≤ 2560 ∧ (Jvm.Cond.and given_1 narrow_1).before args s = true
def lw_Q (_ : Array Value) (s : State) (o : Outcome) (t : State) : Prop := o = .returned (some (.int 1)) ∧ Framed s o t [] 600000 7302250
def lw_Z (below : List Frame) (a : Array Value) (s : State) : State → Prop := fun t => ∃ o, t.status = .running ∧ Ended t below o ∧ lw_Q a s o t
/-- the law's own end, with 1 on the stack, nothing written that was there before, its room as the claim has it -/
theorem lw_ret {p : Program} {l : Launch} {e : Env} {s : State} {m : MethodId} {below : List Frame} {meth : Method} {c : Code} {b : Nat} (hx : p.tables.exec = Jvm.exec) (hb : c.code = code) (hr : meth.sig.returnType = ret) (hlocks : meth.locks = false) {pc : Nat} {H : Heap} {ls : Array Slot} (hdg : decode code pc = .ok (.ireturn, 1)) : W p l e room_1 s m #[Value.ref b] below meth c H [] 600000 7302250 (lw_Z below #[Value.ref b] s) (F0 m pc ls [.int 1]) := by
  intro T hT X
  obtain ⟨fs, hret, hrun, hended, hW, hframe⟩ := X.leave (v := some (.int 1)) (hlocks := hlocks) (fun h => by rw [hr] at h; cases h)
  have hmeth' : T.vm.method? m = some meth := X.method'
  refine ⟨T.setFrames fs, ?_, .returned (some (.int 1)), hrun, hended, rfl, ⟨_, rfl⟩, hW, hframe⟩
  jvm_step X.here [X.here.top, hx, hb, hdg, hmeth', hr, ret, narrow_b1]
  (try refine ⟨rfl, ?_⟩); (try refine ⟨rfl, ?_⟩)
  first | (intro acts; rw [hret _ acts rfl rfl rfl]) | rw [hret _ _ rfl rfl rfl]
  exact Steps.refl _
/-- what holds at the law's entry: the machine, the code, the tables' words (any of lw_tbl by 'hts w (by decide +kernel)'), the script of L ints xs at the cell b, what the Statement gives of the start (any of its parts by flat_of_before) -/
def lw_At (p : Program) (s : State) (m : MethodId) (meth : Method) (c : Code) (b L : Nat) (xs : Nat → Int32) : Prop :=
  p.tables.exec = Jvm.exec ∧ c.code = code ∧ meth.sig.returnType = ret ∧ c.maxLocals = 4 ∧ s.vm.findClass R_law = some m.cls ∧ (∀ w ∈ lw_tbl, w.before #[Value.ref b] s = true) ∧ va_X b L xs s s.heap ∧ b < s.heap.size ∧ meth.locks = false ∧ (Jvm.Cond.and given_1 narrow_1).before #[Value.ref b] s = true
/-- the law's world: the card, then the reference -/
def w_L (cI cZ : ClassId) (ad ae : Nat → Nat) (u : cd_S) (v : ob_S) : va_W := w_6 cI cZ ad u ++ w_7 cI ae v
theorem su_L6 (cI cZ : ClassId) (ad ae : Nat → Nat) (u : cd_S) (v : ob_S) : Su (w_L cI cZ ad ae u v) (w_6 cI cZ ad u) := ⟨[0, 1, 2, 3, 4, 5, 6, 7, 8, 9, 10, 11, 12, 13, 14], by decide, rfl⟩
theorem su_L7 (cI cZ : ClassId) (ad ae : Nat → Nat) (u : cd_S) (v : ob_S) : Su (w_L cI cZ ad ae u v) (w_7 cI ae v) := ⟨[15, 16, 17, 18, 19, 20, 21, 22, 23], by decide, rfl⟩
theorem sp_L6 (cI cZ : ClassId) (ad ae : Nat → Nat) (u : cd_S) (v : ob_S) : Sp (w_L cI cZ ad ae u v) (w_6 cI cZ ad u) (fun u' : cd_S => w_6 cI cZ ad u') (fun u' : cd_S => w_L cI cZ ad ae u' v) := ⟨[0, 1, 2, 3, 4, 5, 6, 7, 8, 9, 10, 11, 12, 13, 14], [15, 16, 17, 18, 19, 20, 21, 22, 23], w_7 cI ae v, by decide, rfl, rfl, by decide, by decide, [9, 10, 11, 12, 13, 14, 15, 16, 17, 18, 19, 20, 21, 22, 23, 0, 1, 2, 3, 4, 5, 6, 7, 8], by decide, fun _ => rfl⟩
theorem sp_L7 (cI cZ : ClassId) (ad ae : Nat → Nat) (u : cd_S) (v : ob_S) : Sp (w_L cI cZ ad ae u v) (w_7 cI ae v) (fun v' : ob_S => w_7 cI ae v') (fun v' : ob_S => w_L cI cZ ad ae u v') := ⟨[15, 16, 17, 18, 19, 20, 21, 22, 23], [0, 1, 2, 3, 4, 5, 6, 7, 8, 9, 10, 11, 12, 13, 14], w_6 cI cZ ad u, by decide, rfl, rfl, by decide, by decide, [0, 1, 2, 3, 4, 5, 6, 7, 8, 9, 10, 11, 12, 13, 14, 15, 16, 17, 18, 19, 20, 21, 22, 23], by decide, fun _ => rfl⟩
section LAW
variable {p : Program} {l : Launch} {e : Env} {s : State} {m : MethodId} {below : List Frame} {meth : Method} {c : Code} {D : va_G} {cI cZ : ClassId} {ad ae : Nat → Nat} {b L : Nat} {xs : Nat → Int32} {x : Int32} {u : cd_S} {v : ob_S} {H : Heap} {locs : List Loc} {ls : Array Slot}
set_option maxHeartbeats 4000000 in
set_option maxRecDepth 100000 in
theorem lc_0 (C : cx_C p c code 4 s m #[Value.ref b] wsL_law RL D (ct_T cI cZ) (fun q : Nat => s.heap.size ≤ q)) (hX : va_X b L xs s s.heap) (hbl : b < s.heap.size) (h1 : vp_in (x + 1) L) (h2 : vp_in (x + 2) L) (h3 : vp_in (x + 3) L) (h4 : vp_in (x + 4) L) (h : rA_ u v) (hP : va_P D vwCl (w_L cI cZ ad ae u v) H) (hD : va_D (fun q : Nat => s.heap.size ≤ q) (w_L cI cZ ad ae u v)) (hS : va_S (fun q : Nat => s.heap.size ≤ q) s.heap H locs) (hl : lv_has ls 4 [(0, .ref b), (1, .ref (ad 0)), (2, .ref (ae 0)), (3, .int x)]) (next : ∀ (u : cd_S) (v : ob_S) (H : Heap) (locs : List Loc), rA_ u v → va_P D vwCl (w_L cI cZ ad ae u v) H → va_D (fun q : Nat => s.heap.size ≤ q) (w_L cI cZ ad ae u v) → va_S (fun q : Nat => s.heap.size ≤ q) s.heap H locs → W p l e room_1 s m #[Value.ref b] below meth c H locs 24 893 (lw_Z below #[Value.ref b] s) (F0 m 604 ls [])) : W p l e room_1 s m #[Value.ref b] below meth c H locs 24 893 (lw_Z below #[Value.ref b] s) (F0 m 120 ls []) := by
  have hx := C.1
  have hb := C.2.1
  have hbA : ¬ (fun q : Nat => s.heap.size ≤ q) b := Nat.not_le.mpr hbl
  refine lv_aload_n hx hb dL_law_120 rfl (lv_at hl 1 rfl) ?_
  refine lv_aload_n hx hb dL_law_121 rfl (lv_at hl 0 rfl) ?_
  refine lv_iload_n hx hb dL_law_122 rfl (lv_at hl 3 rfl) ?_
  refine lv_iconst (v := 1) hx hb dL_law_123 (by decide) ?_
  refine lv_iadd hx hb dL_law_124 ?_
  refine va_sld hx hb hX hbl hbA hS h1 dL_law_125 ?_
  refine lv_aload_n hx hb dL_law_126 rfl (lv_at hl 0 rfl) ?_
  refine lv_iload_n hx hb dL_law_127 rfl (lv_at hl 3 rfl) ?_
  refine lv_iconst (v := 2) hx hb dL_law_128 (by decide) ?_
  refine lv_iadd hx hb dL_law_129 ?_
  refine va_sld hx hb hX hbl hbA hS h2 dL_law_130 ?_
  refine lv_aload_n hx hb dL_law_131 rfl (lv_at hl 0 rfl) ?_
  refine lv_iload_n hx hb dL_law_132 rfl (lv_at hl 3 rfl) ?_
  refine lv_iconst (v := 3) hx hb dL_law_133 (by decide) ?_
  refine lv_iadd hx hb dL_law_134 ?_
  refine va_sld hx hb hX hbl hbA hS h3 dL_law_135 ?_
  refine lv_aload_n hx hb dL_law_136 rfl (lv_at hl 0 rfl) ?_
  refine lv_iload_n hx hb dL_law_137 rfl (lv_at hl 3 rfl) ?_
  refine lv_iconst (v := 4) hx hb dL_law_138 (by decide) ?_
  refine lv_iadd hx hb dL_law_139 ?_
  refine va_sld hx hb hX hbl hbA hS h4 dL_law_140 ?_
  refine kv_i C (c_X6_make l D cI cZ ad u (xs (x + 1).toNatClampNeg) (xs (x + 2).toNatClampNeg) (xs (x + 3).toNatClampNeg) (xs (x + 4).toNatClampNeg) ) (cwV 4 C.2.2.2.2.1 gL_law_X6_make rfl rfl rfl hdX6_make ⟨Nat.le_of_ble_eq_true rfl, Nat.le_of_ble_eq_true rfl⟩) (ci := 6) (q0 := 0) rfl rfl rfl hP hD hS (sp_L6 cI cZ ad ae u v) rfl hl.1 rfl (Nat.le_of_ble_eq_true rfl) dL_law_141 ⟨Nat.le_of_ble_eq_true rfl, Nat.le_of_ble_eq_true rfl⟩ (fun H locs hP hD hS => ?_)
  refine lv_aload_n hx hb dL_law_144 rfl (lv_at hl 2 rfl) ?_
  refine lv_aload_n hx hb dL_law_145 rfl (lv_at hl 0 rfl) ?_
  refine lv_iload_n hx hb dL_law_146 rfl (lv_at hl 3 rfl) ?_
  refine lv_iconst (v := 1) hx hb dL_law_147 (by decide) ?_
  refine lv_iadd hx hb dL_law_148 ?_
  refine va_sld hx hb hX hbl hbA hS h1 dL_law_149 ?_
  refine lv_aload_n hx hb dL_law_150 rfl (lv_at hl 0 rfl) ?_
  refine lv_iload_n hx hb dL_law_151 rfl (lv_at hl 3 rfl) ?_
  refine lv_iconst (v := 2) hx hb dL_law_152 (by decide) ?_
  refine lv_iadd hx hb dL_law_153 ?_
  refine va_sld hx hb hX hbl hbA hS h2 dL_law_154 ?_
  refine lv_aload_n hx hb dL_law_155 rfl (lv_at hl 0 rfl) ?_
  refine lv_iload_n hx hb dL_law_156 rfl (lv_at hl 3 rfl) ?_
  refine lv_iconst (v := 3) hx hb dL_law_157 (by decide) ?_
  refine lv_iadd hx hb dL_law_158 ?_
  refine va_sld hx hb hX hbl hbA hS h3 dL_law_159 ?_
  refine lv_aload_n hx hb dL_law_160 rfl (lv_at hl 0 rfl) ?_
  refine lv_iload_n hx hb dL_law_161 rfl (lv_at hl 3 rfl) ?_
  refine lv_iconst (v := 4) hx hb dL_law_162 (by decide) ?_
  refine lv_iadd hx hb dL_law_163 ?_
  refine va_sld hx hb hX hbl hbA hS h4 dL_law_164 ?_
  refine kv_i C (c_X7_make l D cI cZ ae v (xs (x + 1).toNatClampNeg) (xs (x + 2).toNatClampNeg) (xs (x + 3).toNatClampNeg) (xs (x + 4).toNatClampNeg) ) (cwV 4 C.2.2.2.2.1 gL_law_X7_make rfl rfl rfl hdX7_make ⟨Nat.le_of_ble_eq_true rfl, Nat.le_of_ble_eq_true rfl⟩) (ci := 7) (q0 := 0) rfl rfl rfl hP hD hS (sp_L7 cI cZ ad ae (f_X6_make u (xs (x + 1).toNatClampNeg) (xs (x + 2).toNatClampNeg) (xs (x + 3).toNatClampNeg) (xs (x + 4).toNatClampNeg)).2 v) rfl hl.1 rfl (Nat.le_of_ble_eq_true rfl) dL_law_165 ⟨Nat.le_of_ble_eq_true rfl, Nat.le_of_ble_eq_true rfl⟩ (fun H locs hP hD hS => ?_)
  refine lv_icmp_eq (tgt := 604) hx hb dL_law_168 (by decide) (fun hq => ?_) (fun hq => ?_)
  · exact next _ _ H locs (T_make h (xs (x + 1).toNatClampNeg) (xs (x + 2).toNatClampNeg) (xs (x + 3).toNatClampNeg) (xs (x + 4).toNatClampNeg)).2 hP hD hS
  · exact absurd (T_make h (xs (x + 1).toNatClampNeg) (xs (x + 2).toNatClampNeg) (xs (x + 3).toNatClampNeg) (xs (x + 4).toNatClampNeg)).1 hq
set_option maxHeartbeats 4000000 in
set_option maxRecDepth 100000 in
theorem lc_1 (C : cx_C p c code 4 s m #[Value.ref b] wsL_law RL D (ct_T cI cZ) (fun q : Nat => s.heap.size ≤ q)) (hX : va_X b L xs s s.heap) (hbl : b < s.heap.size) (h1 : vp_in (x + 1) L) (h : rA_ u v) (hP : va_P D vwCl (w_L cI cZ ad ae u v) H) (hD : va_D (fun q : Nat => s.heap.size ≤ q) (w_L cI cZ ad ae u v)) (hS : va_S (fun q : Nat => s.heap.size ≤ q) s.heap H locs) (hl : lv_has ls 4 [(0, .ref b), (1, .ref (ad 0)), (2, .ref (ae 0)), (3, .int x)]) (next : ∀ (u : cd_S) (v : ob_S) (H : Heap) (locs : List Loc), rA_ u v → va_P D vwCl (w_L cI cZ ad ae u v) H → va_D (fun q : Nat => s.heap.size ≤ q) (w_L cI cZ ad ae u v) → va_S (fun q : Nat => s.heap.size ≤ q) s.heap H locs → W p l e room_1 s m #[Value.ref b] below meth c H locs 24 893 (lw_Z below #[Value.ref b] s) (F0 m 604 ls [])) : W p l e room_1 s m #[Value.ref b] below meth c H locs 24 893 (lw_Z below #[Value.ref b] s) (F0 m 173 ls []) := by
  have hx := C.1
  have hb := C.2.1
  have hbA : ¬ (fun q : Nat => s.heap.size ≤ q) b := Nat.not_le.mpr hbl
  refine lv_aload_n hx hb dL_law_173 rfl (lv_at hl 1 rfl) ?_
  refine lv_aload_n hx hb dL_law_174 rfl (lv_at hl 0 rfl) ?_
  refine lv_iload_n hx hb dL_law_175 rfl (lv_at hl 3 rfl) ?_
  refine lv_iconst (v := 1) hx hb dL_law_176 (by decide) ?_
  refine lv_iadd hx hb dL_law_177 ?_
  refine va_sld hx hb hX hbl hbA hS h1 dL_law_178 ?_
  refine kv_i C (c_X6_power l D cI cZ ad u (xs (x + 1).toNatClampNeg) (F_B h).2.2) (cwV 1 C.2.2.2.2.1 gL_law_X6_power rfl rfl rfl hdX6_power ⟨Nat.le_of_ble_eq_true rfl, Nat.le_of_ble_eq_true rfl⟩) (ci := 6) (q0 := 0) rfl rfl rfl hP hD hS (sp_L6 cI cZ ad ae u v) rfl hl.1 rfl (Nat.le_of_ble_eq_true rfl) dL_law_179 ⟨Nat.le_of_ble_eq_true rfl, Nat.le_of_ble_eq_true rfl⟩ (fun H locs hP hD hS => ?_)
  refine lv_aload_n hx hb dL_law_182 rfl (lv_at hl 2 rfl) ?_
  refine lv_aload_n hx hb dL_law_183 rfl (lv_at hl 0 rfl) ?_
  refine lv_iload_n hx hb dL_law_184 rfl (lv_at hl 3 rfl) ?_
  refine lv_iconst (v := 1) hx hb dL_law_185 (by decide) ?_
  refine lv_iadd hx hb dL_law_186 ?_
  refine va_sld hx hb hX hbl hbA hS h1 dL_law_187 ?_
  refine kv_i C (c_X7_power l D cI cZ ae v (xs (x + 1).toNatClampNeg) (F_pm h)) (cwV 1 C.2.2.2.2.1 gL_law_X7_power rfl rfl rfl hdX7_power ⟨Nat.le_of_ble_eq_true rfl, Nat.le_of_ble_eq_true rfl⟩) (ci := 7) (q0 := 0) rfl rfl rfl hP hD hS (sp_L7 cI cZ ad ae (f_X6_power u (xs (x + 1).toNatClampNeg)).2 v) rfl hl.1 rfl (Nat.le_of_ble_eq_true rfl) dL_law_188 ⟨Nat.le_of_ble_eq_true rfl, Nat.le_of_ble_eq_true rfl⟩ (fun H locs hP hD hS => ?_)
  refine lv_icmp_eq (tgt := 604) hx hb dL_law_191 (by decide) (fun hq => ?_) (fun hq => ?_)
  · exact next _ _ H locs (T_power h (xs (x + 1).toNatClampNeg)).2 hP hD hS
  · exact absurd (T_power h (xs (x + 1).toNatClampNeg)).1 hq
set_option maxHeartbeats 4000000 in
set_option maxRecDepth 100000 in
theorem lc_2 (C : cx_C p c code 4 s m #[Value.ref b] wsL_law RL D (ct_T cI cZ) (fun q : Nat => s.heap.size ≤ q)) (hX : va_X b L xs s s.heap) (hbl : b < s.heap.size) (h1 : vp_in (x + 1) L) (h : rA_ u v) (hP : va_P D vwCl (w_L cI cZ ad ae u v) H) (hD : va_D (fun q : Nat => s.heap.size ≤ q) (w_L cI cZ ad ae u v)) (hS : va_S (fun q : Nat => s.heap.size ≤ q) s.heap H locs) (hl : lv_has ls 4 [(0, .ref b), (1, .ref (ad 0)), (2, .ref (ae 0)), (3, .int x)]) (next : ∀ (u : cd_S) (v : ob_S) (H : Heap) (locs : List Loc), rA_ u v → va_P D vwCl (w_L cI cZ ad ae u v) H → va_D (fun q : Nat => s.heap.size ≤ q) (w_L cI cZ ad ae u v) → va_S (fun q : Nat => s.heap.size ≤ q) s.heap H locs → W p l e room_1 s m #[Value.ref b] below meth c H locs 24 893 (lw_Z below #[Value.ref b] s) (F0 m 604 ls [])) : W p l e room_1 s m #[Value.ref b] below meth c H locs 24 893 (lw_Z below #[Value.ref b] s) (F0 m 196 ls []) := by
  have hx := C.1
  have hb := C.2.1
  have hbA : ¬ (fun q : Nat => s.heap.size ≤ q) b := Nat.not_le.mpr hbl
  refine lv_aload_n hx hb dL_law_196 rfl (lv_at hl 1 rfl) ?_
  refine lv_aload_n hx hb dL_law_197 rfl (lv_at hl 0 rfl) ?_
  refine lv_iload_n hx hb dL_law_198 rfl (lv_at hl 3 rfl) ?_
  refine lv_iconst (v := 1) hx hb dL_law_199 (by decide) ?_
  refine lv_iadd hx hb dL_law_200 ?_
  refine va_sld hx hb hX hbl hbA hS h1 dL_law_201 ?_
  refine kv_i C (c_X6_warm l D cI cZ ad u (xs (x + 1).toNatClampNeg) ) (cwV 1 C.2.2.2.2.1 gL_law_X6_warm rfl rfl rfl hdX6_warm ⟨Nat.le_of_ble_eq_true rfl, Nat.le_of_ble_eq_true rfl⟩) (ci := 6) (q0 := 0) rfl rfl rfl hP hD hS (sp_L6 cI cZ ad ae u v) rfl hl.1 rfl (Nat.le_of_ble_eq_true rfl) dL_law_202 ⟨Nat.le_of_ble_eq_true rfl, Nat.le_of_ble_eq_true rfl⟩ (fun H locs hP hD hS => ?_)
  refine lv_aload_n hx hb dL_law_205 rfl (lv_at hl 2 rfl) ?_
  refine lv_aload_n hx hb dL_law_206 rfl (lv_at hl 0 rfl) ?_
  refine lv_iload_n hx hb dL_law_207 rfl (lv_at hl 3 rfl) ?_
  refine lv_iconst (v := 1) hx hb dL_law_208 (by decide) ?_
  refine lv_iadd hx hb dL_law_209 ?_
  refine va_sld hx hb hX hbl hbA hS h1 dL_law_210 ?_
  refine kv_i C (c_X7_warm l D cI cZ ae v (xs (x + 1).toNatClampNeg) ) (cwV 1 C.2.2.2.2.1 gL_law_X7_warm rfl rfl rfl hdX7_warm ⟨Nat.le_of_ble_eq_true rfl, Nat.le_of_ble_eq_true rfl⟩) (ci := 7) (q0 := 0) rfl rfl rfl hP hD hS (sp_L7 cI cZ ad ae (f_X6_warm u (xs (x + 1).toNatClampNeg)).2 v) rfl hl.1 rfl (Nat.le_of_ble_eq_true rfl) dL_law_211 ⟨Nat.le_of_ble_eq_true rfl, Nat.le_of_ble_eq_true rfl⟩ (fun H locs hP hD hS => ?_)
  refine lv_icmp_eq (tgt := 604) hx hb dL_law_214 (by decide) (fun hq => ?_) (fun hq => ?_)
  · exact next _ _ H locs (T_warm h (xs (x + 1).toNatClampNeg)).2 hP hD hS
  · exact absurd (T_warm h (xs (x + 1).toNatClampNeg)).1 hq
set_option maxHeartbeats 4000000 in
set_option maxRecDepth 100000 in
theorem lc_3 (C : cx_C p c code 4 s m #[Value.ref b] wsL_law RL D (ct_T cI cZ) (fun q : Nat => s.heap.size ≤ q)) (hX : va_X b L xs s s.heap) (hbl : b < s.heap.size) (h1 : vp_in (x + 1) L) (h : rA_ u v) (hP : va_P D vwCl (w_L cI cZ ad ae u v) H) (hD : va_D (fun q : Nat => s.heap.size ≤ q) (w_L cI cZ ad ae u v)) (hS : va_S (fun q : Nat => s.heap.size ≤ q) s.heap H locs) (hl : lv_has ls 4 [(0, .ref b), (1, .ref (ad 0)), (2, .ref (ae 0)), (3, .int x)]) (next : ∀ (u : cd_S) (v : ob_S) (H : Heap) (locs : List Loc), rA_ u v → va_P D vwCl (w_L cI cZ ad ae u v) H → va_D (fun q : Nat => s.heap.size ≤ q) (w_L cI cZ ad ae u v) → va_S (fun q : Nat => s.heap.size ≤ q) s.heap H locs → W p l e room_1 s m #[Value.ref b] below meth c H locs 24 893 (lw_Z below #[Value.ref b] s) (F0 m 604 ls [])) : W p l e room_1 s m #[Value.ref b] below meth c H locs 24 893 (lw_Z below #[Value.ref b] s) (F0 m 219 ls []) := by
  have hx := C.1
  have hb := C.2.1
  have hbA : ¬ (fun q : Nat => s.heap.size ≤ q) b := Nat.not_le.mpr hbl
  refine lv_aload_n hx hb dL_law_219 rfl (lv_at hl 1 rfl) ?_
  refine lv_aload_n hx hb dL_law_220 rfl (lv_at hl 0 rfl) ?_
  refine lv_iload_n hx hb dL_law_221 rfl (lv_at hl 3 rfl) ?_
  refine lv_iconst (v := 1) hx hb dL_law_222 (by decide) ?_
  refine lv_iadd hx hb dL_law_223 ?_
  refine va_sld hx hb hX hbl hbA hS h1 dL_law_224 ?_
  refine kv_i C (c_X6_write l D cI cZ ad u (xs (x + 1).toNatClampNeg) ) (cwV 1 C.2.2.2.2.1 gL_law_X6_write rfl rfl rfl hdX6_write ⟨Nat.le_of_ble_eq_true rfl, Nat.le_of_ble_eq_true rfl⟩) (ci := 6) (q0 := 0) rfl rfl rfl hP hD hS (sp_L6 cI cZ ad ae u v) rfl hl.1 rfl (Nat.le_of_ble_eq_true rfl) dL_law_225 ⟨Nat.le_of_ble_eq_true rfl, Nat.le_of_ble_eq_true rfl⟩ (fun H locs hP hD hS => ?_)
  refine lv_aload_n hx hb dL_law_228 rfl (lv_at hl 2 rfl) ?_
  refine lv_aload_n hx hb dL_law_229 rfl (lv_at hl 0 rfl) ?_
  refine lv_iload_n hx hb dL_law_230 rfl (lv_at hl 3 rfl) ?_
  refine lv_iconst (v := 1) hx hb dL_law_231 (by decide) ?_
  refine lv_iadd hx hb dL_law_232 ?_
  refine va_sld hx hb hX hbl hbA hS h1 dL_law_233 ?_
  refine kv_i C (c_X7_write l D cI cZ ae v (xs (x + 1).toNatClampNeg) ⟨(F_T h).1, (F_T h).2.1⟩) (cwV 1 C.2.2.2.2.1 gL_law_X7_write rfl rfl rfl hdX7_write ⟨Nat.le_of_ble_eq_true rfl, Nat.le_of_ble_eq_true rfl⟩) (ci := 7) (q0 := 0) rfl rfl rfl hP hD hS (sp_L7 cI cZ ad ae (f_X6_write u (xs (x + 1).toNatClampNeg)).2 v) rfl hl.1 rfl (Nat.le_of_ble_eq_true rfl) dL_law_234 ⟨Nat.le_of_ble_eq_true rfl, Nat.le_of_ble_eq_true rfl⟩ (fun H locs hP hD hS => ?_)
  refine lv_icmp_eq (tgt := 604) hx hb dL_law_237 (by decide) (fun hq => ?_) (fun hq => ?_)
  · exact next _ _ H locs (T_write h (xs (x + 1).toNatClampNeg)).2 hP hD hS
  · exact absurd (T_write h (xs (x + 1).toNatClampNeg)).1 hq
set_option maxHeartbeats 4000000 in
set_option maxRecDepth 100000 in
theorem lc_4 (C : cx_C p c code 4 s m #[Value.ref b] wsL_law RL D (ct_T cI cZ) (fun q : Nat => s.heap.size ≤ q)) (hX : va_X b L xs s s.heap) (hbl : b < s.heap.size)  (h : rA_ u v) (hP : va_P D vwCl (w_L cI cZ ad ae u v) H) (hD : va_D (fun q : Nat => s.heap.size ≤ q) (w_L cI cZ ad ae u v)) (hS : va_S (fun q : Nat => s.heap.size ≤ q) s.heap H locs) (hl : lv_has ls 4 [(0, .ref b), (1, .ref (ad 0)), (2, .ref (ae 0)), (3, .int x)]) (next : ∀ (u : cd_S) (v : ob_S) (H : Heap) (locs : List Loc), rA_ u v → va_P D vwCl (w_L cI cZ ad ae u v) H → va_D (fun q : Nat => s.heap.size ≤ q) (w_L cI cZ ad ae u v) → va_S (fun q : Nat => s.heap.size ≤ q) s.heap H locs → W p l e room_1 s m #[Value.ref b] below meth c H locs 24 893 (lw_Z below #[Value.ref b] s) (F0 m 604 ls [])) : W p l e room_1 s m #[Value.ref b] below meth c H locs 24 893 (lw_Z below #[Value.ref b] s) (F0 m 242 ls []) := by
  have hx := C.1
  have hb := C.2.1
  have hbA : ¬ (fun q : Nat => s.heap.size ≤ q) b := Nat.not_le.mpr hbl
  refine lv_aload_n hx hb dL_law_242 rfl (lv_at hl 1 rfl) ?_
  refine kv_i C (c_X6_wipe l D cI cZ ad u  ) (cwV 0 C.2.2.2.2.1 gL_law_X6_wipe rfl rfl rfl hdX6_wipe ⟨Nat.le_of_ble_eq_true rfl, Nat.le_of_ble_eq_true rfl⟩) (ci := 6) (q0 := 0) rfl rfl rfl hP hD hS (sp_L6 cI cZ ad ae u v) rfl hl.1 rfl (Nat.le_of_ble_eq_true rfl) dL_law_243 ⟨Nat.le_of_ble_eq_true rfl, Nat.le_of_ble_eq_true rfl⟩ (fun H locs hP hD hS => ?_)
  refine lv_aload_n hx hb dL_law_246 rfl (lv_at hl 2 rfl) ?_
  refine kv_i C (c_X7_wipe l D cI cZ ae v  ) (cwV 0 C.2.2.2.2.1 gL_law_X7_wipe rfl rfl rfl hdX7_wipe ⟨Nat.le_of_ble_eq_true rfl, Nat.le_of_ble_eq_true rfl⟩) (ci := 7) (q0 := 0) rfl rfl rfl hP hD hS (sp_L7 cI cZ ad ae (f_X6_wipe u ).2 v) rfl hl.1 rfl (Nat.le_of_ble_eq_true rfl) dL_law_247 ⟨Nat.le_of_ble_eq_true rfl, Nat.le_of_ble_eq_true rfl⟩ (fun H locs hP hD hS => ?_)
  refine lv_icmp_eq (tgt := 604) hx hb dL_law_250 (by decide) (fun hq => ?_) (fun hq => ?_)
  · exact next _ _ H locs (T_wipe h ).2 hP hD hS
  · exact absurd (T_wipe h ).1 hq
set_option maxHeartbeats 4000000 in
set_option maxRecDepth 100000 in
theorem lc_5 (C : cx_C p c code 4 s m #[Value.ref b] wsL_law RL D (ct_T cI cZ) (fun q : Nat => s.heap.size ≤ q)) (hX : va_X b L xs s s.heap) (hbl : b < s.heap.size) (h1 : vp_in (x + 1) L) (h2 : vp_in (x + 2) L) (h : rA_ u v) (hP : va_P D vwCl (w_L cI cZ ad ae u v) H) (hD : va_D (fun q : Nat => s.heap.size ≤ q) (w_L cI cZ ad ae u v)) (hS : va_S (fun q : Nat => s.heap.size ≤ q) s.heap H locs) (hl : lv_has ls 4 [(0, .ref b), (1, .ref (ad 0)), (2, .ref (ae 0)), (3, .int x)]) (next : ∀ (u : cd_S) (v : ob_S) (H : Heap) (locs : List Loc), rA_ u v → va_P D vwCl (w_L cI cZ ad ae u v) H → va_D (fun q : Nat => s.heap.size ≤ q) (w_L cI cZ ad ae u v) → va_S (fun q : Nat => s.heap.size ≤ q) s.heap H locs → W p l e room_1 s m #[Value.ref b] below meth c H locs 24 893 (lw_Z below #[Value.ref b] s) (F0 m 604 ls [])) : W p l e room_1 s m #[Value.ref b] below meth c H locs 24 893 (lw_Z below #[Value.ref b] s) (F0 m 255 ls []) := by
  have hx := C.1
  have hb := C.2.1
  have hbA : ¬ (fun q : Nat => s.heap.size ≤ q) b := Nat.not_le.mpr hbl
  refine lv_aload_n hx hb dL_law_255 rfl (lv_at hl 1 rfl) ?_
  refine lv_aload_n hx hb dL_law_256 rfl (lv_at hl 0 rfl) ?_
  refine lv_iload_n hx hb dL_law_257 rfl (lv_at hl 3 rfl) ?_
  refine lv_iconst (v := 1) hx hb dL_law_258 (by decide) ?_
  refine lv_iadd hx hb dL_law_259 ?_
  refine va_sld hx hb hX hbl hbA hS h1 dL_law_260 ?_
  refine lv_aload_n hx hb dL_law_261 rfl (lv_at hl 0 rfl) ?_
  refine lv_iload_n hx hb dL_law_262 rfl (lv_at hl 3 rfl) ?_
  refine lv_iconst (v := 2) hx hb dL_law_263 (by decide) ?_
  refine lv_iadd hx hb dL_law_264 ?_
  refine va_sld hx hb hX hbl hbA hS h2 dL_law_265 ?_
  refine kv_p C (c_X6_check l D cI cZ ad u (xs (x + 1).toNatClampNeg) (xs (x + 2).toNatClampNeg) ) (cwV 2 C.2.2.2.2.1 gL_law_X6_check rfl rfl rfl hdX6_check ⟨Nat.le_of_ble_eq_true rfl, Nat.le_of_ble_eq_true rfl⟩) (ci := 6) (q0 := 0) rfl rfl rfl hP hD hS (su_L6 cI cZ ad ae u v) rfl hl.1 rfl (Nat.le_of_ble_eq_true rfl) dL_law_266 ⟨Nat.le_of_ble_eq_true rfl, Nat.le_of_ble_eq_true rfl⟩ (fun H locs hP hS => ?_)
  refine lv_aload_n hx hb dL_law_269 rfl (lv_at hl 2 rfl) ?_
  refine lv_aload_n hx hb dL_law_270 rfl (lv_at hl 0 rfl) ?_
  refine lv_iload_n hx hb dL_law_271 rfl (lv_at hl 3 rfl) ?_
  refine lv_iconst (v := 1) hx hb dL_law_272 (by decide) ?_
  refine lv_iadd hx hb dL_law_273 ?_
  refine va_sld hx hb hX hbl hbA hS h1 dL_law_274 ?_
  refine lv_aload_n hx hb dL_law_275 rfl (lv_at hl 0 rfl) ?_
  refine lv_iload_n hx hb dL_law_276 rfl (lv_at hl 3 rfl) ?_
  refine lv_iconst (v := 2) hx hb dL_law_277 (by decide) ?_
  refine lv_iadd hx hb dL_law_278 ?_
  refine va_sld hx hb hX hbl hbA hS h2 dL_law_279 ?_
  refine kv_p C (c_X7_check l D cI cZ ae v (xs (x + 1).toNatClampNeg) (xs (x + 2).toNatClampNeg) ) (cwV 2 C.2.2.2.2.1 gL_law_X7_check rfl rfl rfl hdX7_check ⟨Nat.le_of_ble_eq_true rfl, Nat.le_of_ble_eq_true rfl⟩) (ci := 7) (q0 := 0) rfl rfl rfl hP hD hS (su_L7 cI cZ ad ae u v) rfl hl.1 rfl (Nat.le_of_ble_eq_true rfl) dL_law_280 ⟨Nat.le_of_ble_eq_true rfl, Nat.le_of_ble_eq_true rfl⟩ (fun H locs hP hS => ?_)
  refine lv_icmp_eq (tgt := 604) hx hb dL_law_283 (by decide) (fun hq => ?_) (fun hq => ?_)
  · exact next u v H locs h hP hD hS
  · exact absurd (T_check u v (xs (x + 1).toNatClampNeg) (xs (x + 2).toNatClampNeg)) hq
set_option maxHeartbeats 4000000 in
set_option maxRecDepth 100000 in
theorem lc_6 (C : cx_C p c code 4 s m #[Value.ref b] wsL_law RL D (ct_T cI cZ) (fun q : Nat => s.heap.size ≤ q)) (hX : va_X b L xs s s.heap) (hbl : b < s.heap.size) (h1 : vp_in (x + 1) L) (h : rA_ u v) (hP : va_P D vwCl (w_L cI cZ ad ae u v) H) (hD : va_D (fun q : Nat => s.heap.size ≤ q) (w_L cI cZ ad ae u v)) (hS : va_S (fun q : Nat => s.heap.size ≤ q) s.heap H locs) (hl : lv_has ls 4 [(0, .ref b), (1, .ref (ad 0)), (2, .ref (ae 0)), (3, .int x)]) (next : ∀ (u : cd_S) (v : ob_S) (H : Heap) (locs : List Loc), rA_ u v → va_P D vwCl (w_L cI cZ ad ae u v) H → va_D (fun q : Nat => s.heap.size ≤ q) (w_L cI cZ ad ae u v) → va_S (fun q : Nat => s.heap.size ≤ q) s.heap H locs → W p l e room_1 s m #[Value.ref b] below meth c H locs 24 893 (lw_Z below #[Value.ref b] s) (F0 m 604 ls [])) : W p l e room_1 s m #[Value.ref b] below meth c H locs 24 893 (lw_Z below #[Value.ref b] s) (F0 m 288 ls []) := by
  have hx := C.1
  have hb := C.2.1
  have hbA : ¬ (fun q : Nat => s.heap.size ≤ q) b := Nat.not_le.mpr hbl
  refine lv_aload_n hx hb dL_law_288 rfl (lv_at hl 1 rfl) ?_
  refine lv_aload_n hx hb dL_law_289 rfl (lv_at hl 0 rfl) ?_
  refine lv_iload_n hx hb dL_law_290 rfl (lv_at hl 3 rfl) ?_
  refine lv_iconst (v := 1) hx hb dL_law_291 (by decide) ?_
  refine lv_iadd hx hb dL_law_292 ?_
  refine va_sld hx hb hX hbl hbA hS h1 dL_law_293 ?_
  refine kv_p C (c_X6_checkOf l D cI cZ ad u (xs (x + 1).toNatClampNeg) ) (cwV 1 C.2.2.2.2.1 gL_law_X6_checkOf rfl rfl rfl hdX6_checkOf ⟨Nat.le_of_ble_eq_true rfl, Nat.le_of_ble_eq_true rfl⟩) (ci := 6) (q0 := 0) rfl rfl rfl hP hD hS (su_L6 cI cZ ad ae u v) rfl hl.1 rfl (Nat.le_of_ble_eq_true rfl) dL_law_294 ⟨Nat.le_of_ble_eq_true rfl, Nat.le_of_ble_eq_true rfl⟩ (fun H locs hP hS => ?_)
  refine lv_aload_n hx hb dL_law_297 rfl (lv_at hl 2 rfl) ?_
  refine lv_aload_n hx hb dL_law_298 rfl (lv_at hl 0 rfl) ?_
  refine lv_iload_n hx hb dL_law_299 rfl (lv_at hl 3 rfl) ?_
  refine lv_iconst (v := 1) hx hb dL_law_300 (by decide) ?_
  refine lv_iadd hx hb dL_law_301 ?_
  refine va_sld hx hb hX hbl hbA hS h1 dL_law_302 ?_
  refine kv_p C (c_X7_checkOf l D cI cZ ae v (xs (x + 1).toNatClampNeg) ) (cwV 1 C.2.2.2.2.1 gL_law_X7_checkOf rfl rfl rfl hdX7_checkOf ⟨Nat.le_of_ble_eq_true rfl, Nat.le_of_ble_eq_true rfl⟩) (ci := 7) (q0 := 0) rfl rfl rfl hP hD hS (su_L7 cI cZ ad ae u v) rfl hl.1 rfl (Nat.le_of_ble_eq_true rfl) dL_law_303 ⟨Nat.le_of_ble_eq_true rfl, Nat.le_of_ble_eq_true rfl⟩ (fun H locs hP hS => ?_)
  refine lv_icmp_eq (tgt := 604) hx hb dL_law_306 (by decide) (fun hq => ?_) (fun hq => ?_)
  · exact next u v H locs h hP hD hS
  · exact absurd (T_checkOf u v (xs (x + 1).toNatClampNeg)) hq
set_option maxHeartbeats 4000000 in
set_option maxRecDepth 100000 in
theorem lc_7 (C : cx_C p c code 4 s m #[Value.ref b] wsL_law RL D (ct_T cI cZ) (fun q : Nat => s.heap.size ≤ q)) (hX : va_X b L xs s s.heap) (hbl : b < s.heap.size) (h1 : vp_in (x + 1) L) (h2 : vp_in (x + 2) L) (h3 : vp_in (x + 3) L) (h : rA_ u v) (hP : va_P D vwCl (w_L cI cZ ad ae u v) H) (hD : va_D (fun q : Nat => s.heap.size ≤ q) (w_L cI cZ ad ae u v)) (hS : va_S (fun q : Nat => s.heap.size ≤ q) s.heap H locs) (hl : lv_has ls 4 [(0, .ref b), (1, .ref (ad 0)), (2, .ref (ae 0)), (3, .int x)]) (next : ∀ (u : cd_S) (v : ob_S) (H : Heap) (locs : List Loc), rA_ u v → va_P D vwCl (w_L cI cZ ad ae u v) H → va_D (fun q : Nat => s.heap.size ≤ q) (w_L cI cZ ad ae u v) → va_S (fun q : Nat => s.heap.size ≤ q) s.heap H locs → W p l e room_1 s m #[Value.ref b] below meth c H locs 24 893 (lw_Z below #[Value.ref b] s) (F0 m 604 ls [])) : W p l e room_1 s m #[Value.ref b] below meth c H locs 24 893 (lw_Z below #[Value.ref b] s) (F0 m 311 ls []) := by
  have hx := C.1
  have hb := C.2.1
  have hbA : ¬ (fun q : Nat => s.heap.size ≤ q) b := Nat.not_le.mpr hbl
  refine lv_aload_n hx hb dL_law_311 rfl (lv_at hl 1 rfl) ?_
  refine lv_aload_n hx hb dL_law_312 rfl (lv_at hl 0 rfl) ?_
  refine lv_iload_n hx hb dL_law_313 rfl (lv_at hl 3 rfl) ?_
  refine lv_iconst (v := 1) hx hb dL_law_314 (by decide) ?_
  refine lv_iadd hx hb dL_law_315 ?_
  refine va_sld hx hb hX hbl hbA hS h1 dL_law_316 ?_
  refine lv_aload_n hx hb dL_law_317 rfl (lv_at hl 0 rfl) ?_
  refine lv_iload_n hx hb dL_law_318 rfl (lv_at hl 3 rfl) ?_
  refine lv_iconst (v := 2) hx hb dL_law_319 (by decide) ?_
  refine lv_iadd hx hb dL_law_320 ?_
  refine va_sld hx hb hX hbl hbA hS h2 dL_law_321 ?_
  refine lv_aload_n hx hb dL_law_322 rfl (lv_at hl 0 rfl) ?_
  refine lv_iload_n hx hb dL_law_323 rfl (lv_at hl 3 rfl) ?_
  refine lv_iconst (v := 3) hx hb dL_law_324 (by decide) ?_
  refine lv_iadd hx hb dL_law_325 ?_
  refine va_sld hx hb hX hbl hbA hS h3 dL_law_326 ?_
  refine kv_i C (c_X6_send l D cI cZ ad u (xs (x + 1).toNatClampNeg) (xs (x + 2).toNatClampNeg) (xs (x + 3).toNatClampNeg) (F_pc h)) (cwV 3 C.2.2.2.2.1 gL_law_X6_send rfl rfl rfl hdX6_send ⟨Nat.le_of_ble_eq_true rfl, Nat.le_of_ble_eq_true rfl⟩) (ci := 6) (q0 := 0) rfl rfl rfl hP hD hS (sp_L6 cI cZ ad ae u v) rfl hl.1 rfl (Nat.le_of_ble_eq_true rfl) dL_law_327 ⟨Nat.le_of_ble_eq_true rfl, Nat.le_of_ble_eq_true rfl⟩ (fun H locs hP hD hS => ?_)
  refine lv_aload_n hx hb dL_law_330 rfl (lv_at hl 2 rfl) ?_
  refine lv_aload_n hx hb dL_law_331 rfl (lv_at hl 0 rfl) ?_
  refine lv_iload_n hx hb dL_law_332 rfl (lv_at hl 3 rfl) ?_
  refine lv_iconst (v := 1) hx hb dL_law_333 (by decide) ?_
  refine lv_iadd hx hb dL_law_334 ?_
  refine va_sld hx hb hX hbl hbA hS h1 dL_law_335 ?_
  refine lv_aload_n hx hb dL_law_336 rfl (lv_at hl 0 rfl) ?_
  refine lv_iload_n hx hb dL_law_337 rfl (lv_at hl 3 rfl) ?_
  refine lv_iconst (v := 2) hx hb dL_law_338 (by decide) ?_
  refine lv_iadd hx hb dL_law_339 ?_
  refine va_sld hx hb hX hbl hbA hS h2 dL_law_340 ?_
  refine lv_aload_n hx hb dL_law_341 rfl (lv_at hl 0 rfl) ?_
  refine lv_iload_n hx hb dL_law_342 rfl (lv_at hl 3 rfl) ?_
  refine lv_iconst (v := 3) hx hb dL_law_343 (by decide) ?_
  refine lv_iadd hx hb dL_law_344 ?_
  refine va_sld hx hb hX hbl hbA hS h3 dL_law_345 ?_
  refine kv_i C (c_X7_send l D cI cZ ae v (xs (x + 1).toNatClampNeg) (xs (x + 2).toNatClampNeg) (xs (x + 3).toNatClampNeg) (F_pm h)) (cwV 3 C.2.2.2.2.1 gL_law_X7_send rfl rfl rfl hdX7_send ⟨Nat.le_of_ble_eq_true rfl, Nat.le_of_ble_eq_true rfl⟩) (ci := 7) (q0 := 0) rfl rfl rfl hP hD hS (sp_L7 cI cZ ad ae (f_X6_send u (xs (x + 1).toNatClampNeg) (xs (x + 2).toNatClampNeg) (xs (x + 3).toNatClampNeg)).2 v) rfl hl.1 rfl (Nat.le_of_ble_eq_true rfl) dL_law_346 ⟨Nat.le_of_ble_eq_true rfl, Nat.le_of_ble_eq_true rfl⟩ (fun H locs hP hD hS => ?_)
  refine lv_icmp_eq (tgt := 604) hx hb dL_law_349 (by decide) (fun hq => ?_) (fun hq => ?_)
  · exact next _ _ H locs (T_send h (xs (x + 1).toNatClampNeg) (xs (x + 2).toNatClampNeg) (xs (x + 3).toNatClampNeg)).2 hP hD hS
  · exact absurd (T_send h (xs (x + 1).toNatClampNeg) (xs (x + 2).toNatClampNeg) (xs (x + 3).toNatClampNeg)).1 hq
set_option maxHeartbeats 4000000 in
set_option maxRecDepth 100000 in
theorem lc_8 (C : cx_C p c code 4 s m #[Value.ref b] wsL_law RL D (ct_T cI cZ) (fun q : Nat => s.heap.size ≤ q)) (hX : va_X b L xs s s.heap) (hbl : b < s.heap.size) (h1 : vp_in (x + 1) L) (h2 : vp_in (x + 2) L) (h : rA_ u v) (hP : va_P D vwCl (w_L cI cZ ad ae u v) H) (hD : va_D (fun q : Nat => s.heap.size ≤ q) (w_L cI cZ ad ae u v)) (hS : va_S (fun q : Nat => s.heap.size ≤ q) s.heap H locs) (hl : lv_has ls 4 [(0, .ref b), (1, .ref (ad 0)), (2, .ref (ae 0)), (3, .int x)]) (next : ∀ (u : cd_S) (v : ob_S) (H : Heap) (locs : List Loc), rA_ u v → va_P D vwCl (w_L cI cZ ad ae u v) H → va_D (fun q : Nat => s.heap.size ≤ q) (w_L cI cZ ad ae u v) → va_S (fun q : Nat => s.heap.size ≤ q) s.heap H locs → W p l e room_1 s m #[Value.ref b] below meth c H locs 24 893 (lw_Z below #[Value.ref b] s) (F0 m 604 ls [])) : W p l e room_1 s m #[Value.ref b] below meth c H locs 24 893 (lw_Z below #[Value.ref b] s) (F0 m 354 ls []) := by
  have hx := C.1
  have hb := C.2.1
  have hbA : ¬ (fun q : Nat => s.heap.size ≤ q) b := Nat.not_le.mpr hbl
  refine lv_aload_n hx hb dL_law_354 rfl (lv_at hl 1 rfl) ?_
  refine lv_aload_n hx hb dL_law_355 rfl (lv_at hl 0 rfl) ?_
  refine lv_iload_n hx hb dL_law_356 rfl (lv_at hl 3 rfl) ?_
  refine lv_iconst (v := 1) hx hb dL_law_357 (by decide) ?_
  refine lv_iadd hx hb dL_law_358 ?_
  refine va_sld hx hb hX hbl hbA hS h1 dL_law_359 ?_
  refine lv_aload_n hx hb dL_law_360 rfl (lv_at hl 0 rfl) ?_
  refine lv_iload_n hx hb dL_law_361 rfl (lv_at hl 3 rfl) ?_
  refine lv_iconst (v := 2) hx hb dL_law_362 (by decide) ?_
  refine lv_iadd hx hb dL_law_363 ?_
  refine va_sld hx hb hX hbl hbA hS h2 dL_law_364 ?_
  refine kv_i C (c_X6_tell l D cI cZ ad u (xs (x + 1).toNatClampNeg) (xs (x + 2).toNatClampNeg) (F_pc h)) (cwV 2 C.2.2.2.2.1 gL_law_X6_tell rfl rfl rfl hdX6_tell ⟨Nat.le_of_ble_eq_true rfl, Nat.le_of_ble_eq_true rfl⟩) (ci := 6) (q0 := 0) rfl rfl rfl hP hD hS (sp_L6 cI cZ ad ae u v) rfl hl.1 rfl (Nat.le_of_ble_eq_true rfl) dL_law_365 ⟨Nat.le_of_ble_eq_true rfl, Nat.le_of_ble_eq_true rfl⟩ (fun H locs hP hD hS => ?_)
  refine lv_aload_n hx hb dL_law_368 rfl (lv_at hl 2 rfl) ?_
  refine lv_aload_n hx hb dL_law_369 rfl (lv_at hl 0 rfl) ?_
  refine lv_iload_n hx hb dL_law_370 rfl (lv_at hl 3 rfl) ?_
  refine lv_iconst (v := 1) hx hb dL_law_371 (by decide) ?_
  refine lv_iadd hx hb dL_law_372 ?_
  refine va_sld hx hb hX hbl hbA hS h1 dL_law_373 ?_
  refine lv_aload_n hx hb dL_law_374 rfl (lv_at hl 0 rfl) ?_
  refine lv_iload_n hx hb dL_law_375 rfl (lv_at hl 3 rfl) ?_
  refine lv_iconst (v := 2) hx hb dL_law_376 (by decide) ?_
  refine lv_iadd hx hb dL_law_377 ?_
  refine va_sld hx hb hX hbl hbA hS h2 dL_law_378 ?_
  refine kv_i C (c_X7_tell l D cI cZ ae v (xs (x + 1).toNatClampNeg) (xs (x + 2).toNatClampNeg) (F_pm h)) (cwV 2 C.2.2.2.2.1 gL_law_X7_tell rfl rfl rfl hdX7_tell ⟨Nat.le_of_ble_eq_true rfl, Nat.le_of_ble_eq_true rfl⟩) (ci := 7) (q0 := 0) rfl rfl rfl hP hD hS (sp_L7 cI cZ ad ae (f_X6_tell u (xs (x + 1).toNatClampNeg) (xs (x + 2).toNatClampNeg)).2 v) rfl hl.1 rfl (Nat.le_of_ble_eq_true rfl) dL_law_379 ⟨Nat.le_of_ble_eq_true rfl, Nat.le_of_ble_eq_true rfl⟩ (fun H locs hP hD hS => ?_)
  refine lv_icmp_eq (tgt := 604) hx hb dL_law_382 (by decide) (fun hq => ?_) (fun hq => ?_)
  · exact next _ _ H locs (T_tell h (xs (x + 1).toNatClampNeg) (xs (x + 2).toNatClampNeg)).2 hP hD hS
  · exact absurd (T_tell h (xs (x + 1).toNatClampNeg) (xs (x + 2).toNatClampNeg)).1 hq
set_option maxHeartbeats 4000000 in
set_option maxRecDepth 100000 in
theorem lc_9 (C : cx_C p c code 4 s m #[Value.ref b] wsL_law RL D (ct_T cI cZ) (fun q : Nat => s.heap.size ≤ q)) (hX : va_X b L xs s s.heap) (hbl : b < s.heap.size) (h1 : vp_in (x + 1) L) (h2 : vp_in (x + 2) L) (h : rA_ u v) (hP : va_P D vwCl (w_L cI cZ ad ae u v) H) (hD : va_D (fun q : Nat => s.heap.size ≤ q) (w_L cI cZ ad ae u v)) (hS : va_S (fun q : Nat => s.heap.size ≤ q) s.heap H locs) (hl : lv_has ls 4 [(0, .ref b), (1, .ref (ad 0)), (2, .ref (ae 0)), (3, .int x)]) (next : ∀ (u : cd_S) (v : ob_S) (H : Heap) (locs : List Loc), rA_ u v → va_P D vwCl (w_L cI cZ ad ae u v) H → va_D (fun q : Nat => s.heap.size ≤ q) (w_L cI cZ ad ae u v) → va_S (fun q : Nat => s.heap.size ≤ q) s.heap H locs → W p l e room_1 s m #[Value.ref b] below meth c H locs 24 893 (lw_Z below #[Value.ref b] s) (F0 m 604 ls [])) : W p l e room_1 s m #[Value.ref b] below meth c H locs 24 893 (lw_Z below #[Value.ref b] s) (F0 m 387 ls []) := by
  have hx := C.1
  have hb := C.2.1
  have hbA : ¬ (fun q : Nat => s.heap.size ≤ q) b := Nat.not_le.mpr hbl
  refine lv_aload_n hx hb dL_law_387 rfl (lv_at hl 1 rfl) ?_
  refine lv_aload_n hx hb dL_law_388 rfl (lv_at hl 0 rfl) ?_
  refine lv_iload_n hx hb dL_law_389 rfl (lv_at hl 3 rfl) ?_
  refine lv_iconst (v := 1) hx hb dL_law_390 (by decide) ?_
  refine lv_iadd hx hb dL_law_391 ?_
  refine va_sld hx hb hX hbl hbA hS h1 dL_law_392 ?_
  refine lv_aload_n hx hb dL_law_393 rfl (lv_at hl 0 rfl) ?_
  refine lv_iload_n hx hb dL_law_394 rfl (lv_at hl 3 rfl) ?_
  refine lv_iconst (v := 2) hx hb dL_law_395 (by decide) ?_
  refine lv_iadd hx hb dL_law_396 ?_
  refine va_sld hx hb hX hbl hbA hS h2 dL_law_397 ?_
  refine kv_i C (c_X6_give l D cI cZ ad u (xs (x + 1).toNatClampNeg) (xs (x + 2).toNatClampNeg) (F_c6 h).1) (cwV 2 C.2.2.2.2.1 gL_law_X6_give rfl rfl rfl hdX6_give ⟨Nat.le_of_ble_eq_true rfl, Nat.le_of_ble_eq_true rfl⟩) (ci := 6) (q0 := 0) rfl rfl rfl hP hD hS (sp_L6 cI cZ ad ae u v) rfl hl.1 rfl (Nat.le_of_ble_eq_true rfl) dL_law_398 ⟨Nat.le_of_ble_eq_true rfl, Nat.le_of_ble_eq_true rfl⟩ (fun H locs hP hD hS => ?_)
  refine lv_aload_n hx hb dL_law_401 rfl (lv_at hl 2 rfl) ?_
  refine lv_aload_n hx hb dL_law_402 rfl (lv_at hl 0 rfl) ?_
  refine lv_iload_n hx hb dL_law_403 rfl (lv_at hl 3 rfl) ?_
  refine lv_iconst (v := 1) hx hb dL_law_404 (by decide) ?_
  refine lv_iadd hx hb dL_law_405 ?_
  refine va_sld hx hb hX hbl hbA hS h1 dL_law_406 ?_
  refine lv_aload_n hx hb dL_law_407 rfl (lv_at hl 0 rfl) ?_
  refine lv_iload_n hx hb dL_law_408 rfl (lv_at hl 3 rfl) ?_
  refine lv_iconst (v := 2) hx hb dL_law_409 (by decide) ?_
  refine lv_iadd hx hb dL_law_410 ?_
  refine va_sld hx hb hX hbl hbA hS h2 dL_law_411 ?_
  refine kv_i C (c_X7_give l D cI cZ ae v (xs (x + 1).toNatClampNeg) (xs (x + 2).toNatClampNeg) (F_Q h)) (cwV 2 C.2.2.2.2.1 gL_law_X7_give rfl rfl rfl hdX7_give ⟨Nat.le_of_ble_eq_true rfl, Nat.le_of_ble_eq_true rfl⟩) (ci := 7) (q0 := 0) rfl rfl rfl hP hD hS (sp_L7 cI cZ ad ae (f_X6_give u (xs (x + 1).toNatClampNeg) (xs (x + 2).toNatClampNeg)).2 v) rfl hl.1 rfl (Nat.le_of_ble_eq_true rfl) dL_law_412 ⟨Nat.le_of_ble_eq_true rfl, Nat.le_of_ble_eq_true rfl⟩ (fun H locs hP hD hS => ?_)
  refine lv_icmp_eq (tgt := 604) hx hb dL_law_415 (by decide) (fun hq => ?_) (fun hq => ?_)
  · exact next _ _ H locs (T_give h (xs (x + 1).toNatClampNeg) (xs (x + 2).toNatClampNeg)).2 hP hD hS
  · exact absurd (T_give h (xs (x + 1).toNatClampNeg) (xs (x + 2).toNatClampNeg)).1 hq
set_option maxHeartbeats 4000000 in
set_option maxRecDepth 100000 in
theorem lc_10 (C : cx_C p c code 4 s m #[Value.ref b] wsL_law RL D (ct_T cI cZ) (fun q : Nat => s.heap.size ≤ q)) (hX : va_X b L xs s s.heap) (hbl : b < s.heap.size)  (h : rA_ u v) (hP : va_P D vwCl (w_L cI cZ ad ae u v) H) (hD : va_D (fun q : Nat => s.heap.size ≤ q) (w_L cI cZ ad ae u v)) (hS : va_S (fun q : Nat => s.heap.size ≤ q) s.heap H locs) (hl : lv_has ls 4 [(0, .ref b), (1, .ref (ad 0)), (2, .ref (ae 0)), (3, .int x)]) (next : ∀ (u : cd_S) (v : ob_S) (H : Heap) (locs : List Loc), rA_ u v → va_P D vwCl (w_L cI cZ ad ae u v) H → va_D (fun q : Nat => s.heap.size ≤ q) (w_L cI cZ ad ae u v) → va_S (fun q : Nat => s.heap.size ≤ q) s.heap H locs → W p l e room_1 s m #[Value.ref b] below meth c H locs 24 893 (lw_Z below #[Value.ref b] s) (F0 m 604 ls [])) : W p l e room_1 s m #[Value.ref b] below meth c H locs 24 893 (lw_Z below #[Value.ref b] s) (F0 m 420 ls []) := by
  have hx := C.1
  have hb := C.2.1
  have hbA : ¬ (fun q : Nat => s.heap.size ≤ q) b := Nat.not_le.mpr hbl
  refine lv_aload_n hx hb dL_law_420 rfl (lv_at hl 1 rfl) ?_
  refine kv_i C (c_X6_get l D cI cZ ad u  (F_B h).2.2) (cwV 0 C.2.2.2.2.1 gL_law_X6_get rfl rfl rfl hdX6_get ⟨Nat.le_of_ble_eq_true rfl, Nat.le_of_ble_eq_true rfl⟩) (ci := 6) (q0 := 0) rfl rfl rfl hP hD hS (sp_L6 cI cZ ad ae u v) rfl hl.1 rfl (Nat.le_of_ble_eq_true rfl) dL_law_421 ⟨Nat.le_of_ble_eq_true rfl, Nat.le_of_ble_eq_true rfl⟩ (fun H locs hP hD hS => ?_)
  refine lv_aload_n hx hb dL_law_424 rfl (lv_at hl 2 rfl) ?_
  refine kv_i C (c_X7_get l D cI cZ ae v  (F_get h)) (cwV 0 C.2.2.2.2.1 gL_law_X7_get rfl rfl rfl hdX7_get ⟨Nat.le_of_ble_eq_true rfl, Nat.le_of_ble_eq_true rfl⟩) (ci := 7) (q0 := 0) rfl rfl rfl hP hD hS (sp_L7 cI cZ ad ae (f_X6_get u ).2 v) rfl hl.1 rfl (Nat.le_of_ble_eq_true rfl) dL_law_425 ⟨Nat.le_of_ble_eq_true rfl, Nat.le_of_ble_eq_true rfl⟩ (fun H locs hP hD hS => ?_)
  refine lv_icmp_eq (tgt := 604) hx hb dL_law_428 (by decide) (fun hq => ?_) (fun hq => ?_)
  · exact next _ _ H locs (T_get h ).2 hP hD hS
  · exact absurd (T_get h ).1 hq
set_option maxHeartbeats 4000000 in
set_option maxRecDepth 100000 in
theorem lc_11 (C : cx_C p c code 4 s m #[Value.ref b] wsL_law RL D (ct_T cI cZ) (fun q : Nat => s.heap.size ≤ q)) (hX : va_X b L xs s s.heap) (hbl : b < s.heap.size) (h1 : vp_in (x + 1) L) (h : rA_ u v) (hP : va_P D vwCl (w_L cI cZ ad ae u v) H) (hD : va_D (fun q : Nat => s.heap.size ≤ q) (w_L cI cZ ad ae u v)) (hS : va_S (fun q : Nat => s.heap.size ≤ q) s.heap H locs) (hl : lv_has ls 4 [(0, .ref b), (1, .ref (ad 0)), (2, .ref (ae 0)), (3, .int x)]) (next : ∀ (u : cd_S) (v : ob_S) (H : Heap) (locs : List Loc), rA_ u v → va_P D vwCl (w_L cI cZ ad ae u v) H → va_D (fun q : Nat => s.heap.size ≤ q) (w_L cI cZ ad ae u v) → va_S (fun q : Nat => s.heap.size ≤ q) s.heap H locs → W p l e room_1 s m #[Value.ref b] below meth c H locs 24 893 (lw_Z below #[Value.ref b] s) (F0 m 604 ls [])) : W p l e room_1 s m #[Value.ref b] below meth c H locs 24 893 (lw_Z below #[Value.ref b] s) (F0 m 433 ls []) := by
  have hx := C.1
  have hb := C.2.1
  have hbA : ¬ (fun q : Nat => s.heap.size ≤ q) b := Nat.not_le.mpr hbl
  refine lv_aload_n hx hb dL_law_433 rfl (lv_at hl 1 rfl) ?_
  refine lv_aload_n hx hb dL_law_434 rfl (lv_at hl 0 rfl) ?_
  refine lv_iload_n hx hb dL_law_435 rfl (lv_at hl 3 rfl) ?_
  refine lv_iconst (v := 1) hx hb dL_law_436 (by decide) ?_
  refine lv_iadd hx hb dL_law_437 ?_
  refine va_sld hx hb hX hbl hbA hS h1 dL_law_438 ?_
  refine kv_i C (c_X6_tick l D cI cZ ad u (xs (x + 1).toNatClampNeg) (fun u => ∃ m, rA_ u m) ⟨_, h⟩ (fun u hu => by obtain ⟨m, hm⟩ := hu; exact (F_B hm).2.2) (fun u hu => by obtain ⟨m, hm⟩ := hu; exact ⟨_, T_one hm⟩)) (cwV 1 C.2.2.2.2.1 gL_law_X6_tick rfl rfl rfl hdX6_tick ⟨Nat.le_of_ble_eq_true rfl, Nat.le_of_ble_eq_true rfl⟩) (ci := 6) (q0 := 0) rfl rfl rfl hP hD hS (sp_L6 cI cZ ad ae u v) rfl hl.1 rfl (Nat.le_of_ble_eq_true rfl) dL_law_439 ⟨Nat.le_of_ble_eq_true rfl, Nat.le_of_ble_eq_true rfl⟩ (fun H locs hP hD hS => ?_)
  refine lv_aload_n hx hb dL_law_442 rfl (lv_at hl 2 rfl) ?_
  refine lv_aload_n hx hb dL_law_443 rfl (lv_at hl 0 rfl) ?_
  refine lv_iload_n hx hb dL_law_444 rfl (lv_at hl 3 rfl) ?_
  refine lv_iconst (v := 1) hx hb dL_law_445 (by decide) ?_
  refine lv_iadd hx hb dL_law_446 ?_
  refine va_sld hx hb hX hbl hbA hS h1 dL_law_447 ?_
  refine kv_i C (c_X7_tick l D cI cZ ae v (xs (x + 1).toNatClampNeg) (fun v => ∃ c, rA_ c v) ⟨_, h⟩ (fun v hv => by obtain ⟨c, hc⟩ := hv; exact F_pt hc) (fun v hv => by obtain ⟨c, hc⟩ := hv; exact ⟨_, T_one hc⟩)) (cwV 1 C.2.2.2.2.1 gL_law_X7_tick rfl rfl rfl hdX7_tick ⟨Nat.le_of_ble_eq_true rfl, Nat.le_of_ble_eq_true rfl⟩) (ci := 7) (q0 := 0) rfl rfl rfl hP hD hS (sp_L7 cI cZ ad ae (f_X6_tick u (xs (x + 1).toNatClampNeg)).2 v) rfl hl.1 rfl (Nat.le_of_ble_eq_true rfl) dL_law_448 ⟨Nat.le_of_ble_eq_true rfl, Nat.le_of_ble_eq_true rfl⟩ (fun H locs hP hD hS => ?_)
  refine lv_icmp_eq (tgt := 604) hx hb dL_law_451 (by decide) (fun hq => ?_) (fun hq => ?_)
  · exact next _ _ H locs (T_tick h (xs (x + 1).toNatClampNeg)).2 hP hD hS
  · exact absurd (T_tick h (xs (x + 1).toNatClampNeg)).1 hq
set_option maxHeartbeats 4000000 in
set_option maxRecDepth 100000 in
theorem lc_12 (C : cx_C p c code 4 s m #[Value.ref b] wsL_law RL D (ct_T cI cZ) (fun q : Nat => s.heap.size ≤ q)) (hX : va_X b L xs s s.heap) (hbl : b < s.heap.size)  (h : rA_ u v) (hP : va_P D vwCl (w_L cI cZ ad ae u v) H) (hD : va_D (fun q : Nat => s.heap.size ≤ q) (w_L cI cZ ad ae u v)) (hS : va_S (fun q : Nat => s.heap.size ≤ q) s.heap H locs) (hl : lv_has ls 4 [(0, .ref b), (1, .ref (ad 0)), (2, .ref (ae 0)), (3, .int x)]) (next : ∀ (u : cd_S) (v : ob_S) (H : Heap) (locs : List Loc), rA_ u v → va_P D vwCl (w_L cI cZ ad ae u v) H → va_D (fun q : Nat => s.heap.size ≤ q) (w_L cI cZ ad ae u v) → va_S (fun q : Nat => s.heap.size ≤ q) s.heap H locs → W p l e room_1 s m #[Value.ref b] below meth c H locs 24 893 (lw_Z below #[Value.ref b] s) (F0 m 604 ls [])) : W p l e room_1 s m #[Value.ref b] below meth c H locs 24 893 (lw_Z below #[Value.ref b] s) (F0 m 456 ls []) := by
  have hx := C.1
  have hb := C.2.1
  have hbA : ¬ (fun q : Nat => s.heap.size ≤ q) b := Nat.not_le.mpr hbl
  refine lv_aload_n hx hb dL_law_456 rfl (lv_at hl 1 rfl) ?_
  refine kv_i C (c_X6_tune l D cI cZ ad u  pc_A (F_pc h) (fun _ h => h) (fun _ _ h => ob_hears h) (fun _ a h => pc_obey h a)) (cwV 0 C.2.2.2.2.1 gL_law_X6_tune rfl rfl rfl hdX6_tune ⟨Nat.le_of_ble_eq_true rfl, Nat.le_of_ble_eq_true rfl⟩) (ci := 6) (q0 := 0) rfl rfl rfl hP hD hS (sp_L6 cI cZ ad ae u v) rfl hl.1 rfl (Nat.le_of_ble_eq_true rfl) dL_law_457 ⟨Nat.le_of_ble_eq_true rfl, Nat.le_of_ble_eq_true rfl⟩ (fun H locs hP hD hS => ?_)
  refine lv_aload_n hx hb dL_law_460 rfl (lv_at hl 2 rfl) ?_
  refine kv_i C (c_X7_tune l D cI cZ ae v  pm_A (F_pm h) (fun _ h => h) (fun _ a h => pm_tell h a)) (cwV 0 C.2.2.2.2.1 gL_law_X7_tune rfl rfl rfl hdX7_tune ⟨Nat.le_of_ble_eq_true rfl, Nat.le_of_ble_eq_true rfl⟩) (ci := 7) (q0 := 0) rfl rfl rfl hP hD hS (sp_L7 cI cZ ad ae (f_X6_tune u ).2 v) rfl hl.1 rfl (Nat.le_of_ble_eq_true rfl) dL_law_461 ⟨Nat.le_of_ble_eq_true rfl, Nat.le_of_ble_eq_true rfl⟩ (fun H locs hP hD hS => ?_)
  refine lv_icmp_eq (tgt := 604) hx hb dL_law_464 (by decide) (fun hq => ?_) (fun hq => ?_)
  · exact next _ _ H locs (T_tune h ).2 hP hD hS
  · exact absurd (T_tune h ).1 hq
set_option maxHeartbeats 4000000 in
set_option maxRecDepth 100000 in
theorem lc_13 (C : cx_C p c code 4 s m #[Value.ref b] wsL_law RL D (ct_T cI cZ) (fun q : Nat => s.heap.size ≤ q)) (hX : va_X b L xs s s.heap) (hbl : b < s.heap.size) (h1 : vp_in (x + 1) L) (h2 : vp_in (x + 2) L) (h : rA_ u v) (hP : va_P D vwCl (w_L cI cZ ad ae u v) H) (hD : va_D (fun q : Nat => s.heap.size ≤ q) (w_L cI cZ ad ae u v)) (hS : va_S (fun q : Nat => s.heap.size ≤ q) s.heap H locs) (hl : lv_has ls 4 [(0, .ref b), (1, .ref (ad 0)), (2, .ref (ae 0)), (3, .int x)]) (next : ∀ (u : cd_S) (v : ob_S) (H : Heap) (locs : List Loc), rA_ u v → va_P D vwCl (w_L cI cZ ad ae u v) H → va_D (fun q : Nat => s.heap.size ≤ q) (w_L cI cZ ad ae u v) → va_S (fun q : Nat => s.heap.size ≤ q) s.heap H locs → W p l e room_1 s m #[Value.ref b] below meth c H locs 24 893 (lw_Z below #[Value.ref b] s) (F0 m 604 ls [])) : W p l e room_1 s m #[Value.ref b] below meth c H locs 24 893 (lw_Z below #[Value.ref b] s) (F0 m 469 ls []) := by
  have hx := C.1
  have hb := C.2.1
  have hbA : ¬ (fun q : Nat => s.heap.size ≤ q) b := Nat.not_le.mpr hbl
  refine lv_aload_n hx hb dL_law_469 rfl (lv_at hl 1 rfl) ?_
  refine lv_aload_n hx hb dL_law_470 rfl (lv_at hl 0 rfl) ?_
  refine lv_iload_n hx hb dL_law_471 rfl (lv_at hl 3 rfl) ?_
  refine lv_iconst (v := 1) hx hb dL_law_472 (by decide) ?_
  refine lv_iadd hx hb dL_law_473 ?_
  refine va_sld hx hb hX hbl hbA hS h1 dL_law_474 ?_
  refine lv_aload_n hx hb dL_law_475 rfl (lv_at hl 0 rfl) ?_
  refine lv_iload_n hx hb dL_law_476 rfl (lv_at hl 3 rfl) ?_
  refine lv_iconst (v := 2) hx hb dL_law_477 (by decide) ?_
  refine lv_iadd hx hb dL_law_478 ?_
  refine va_sld hx hb hX hbl hbA hS h2 dL_law_479 ?_
  refine kv_p C (c_X6_block l D cI cZ ad u (xs (x + 1).toNatClampNeg) (xs (x + 2).toNatClampNeg) (F_B h).2.2) (cwV 2 C.2.2.2.2.1 gL_law_X6_block rfl rfl rfl hdX6_block ⟨Nat.le_of_ble_eq_true rfl, Nat.le_of_ble_eq_true rfl⟩) (ci := 6) (q0 := 0) rfl rfl rfl hP hD hS (su_L6 cI cZ ad ae u v) rfl hl.1 rfl (Nat.le_of_ble_eq_true rfl) dL_law_480 ⟨Nat.le_of_ble_eq_true rfl, Nat.le_of_ble_eq_true rfl⟩ (fun H locs hP hS => ?_)
  refine lv_aload_n hx hb dL_law_483 rfl (lv_at hl 2 rfl) ?_
  refine lv_aload_n hx hb dL_law_484 rfl (lv_at hl 0 rfl) ?_
  refine lv_iload_n hx hb dL_law_485 rfl (lv_at hl 3 rfl) ?_
  refine lv_iconst (v := 1) hx hb dL_law_486 (by decide) ?_
  refine lv_iadd hx hb dL_law_487 ?_
  refine va_sld hx hb hX hbl hbA hS h1 dL_law_488 ?_
  refine lv_aload_n hx hb dL_law_489 rfl (lv_at hl 0 rfl) ?_
  refine lv_iload_n hx hb dL_law_490 rfl (lv_at hl 3 rfl) ?_
  refine lv_iconst (v := 2) hx hb dL_law_491 (by decide) ?_
  refine lv_iadd hx hb dL_law_492 ?_
  refine va_sld hx hb hX hbl hbA hS h2 dL_law_493 ?_
  refine kv_p C (c_X7_block l D cI cZ ae v (xs (x + 1).toNatClampNeg) (xs (x + 2).toNatClampNeg) ⟨(F_B h).1, (F_B h).2.1⟩ (F_4 h)) (cwV 2 C.2.2.2.2.1 gL_law_X7_block rfl rfl rfl hdX7_block ⟨Nat.le_of_ble_eq_true rfl, Nat.le_of_ble_eq_true rfl⟩) (ci := 7) (q0 := 0) rfl rfl rfl hP hD hS (su_L7 cI cZ ad ae u v) rfl hl.1 rfl (Nat.le_of_ble_eq_true rfl) dL_law_494 ⟨Nat.le_of_ble_eq_true rfl, Nat.le_of_ble_eq_true rfl⟩ (fun H locs hP hS => ?_)
  refine lv_icmp_eq (tgt := 604) hx hb dL_law_497 (by decide) (fun hq => ?_) (fun hq => ?_)
  · exact next u v H locs h hP hD hS
  · exact absurd (T_block h (xs (x + 1).toNatClampNeg) (xs (x + 2).toNatClampNeg)) hq
set_option maxHeartbeats 4000000 in
set_option maxRecDepth 100000 in
theorem lc_14 (C : cx_C p c code 4 s m #[Value.ref b] wsL_law RL D (ct_T cI cZ) (fun q : Nat => s.heap.size ≤ q)) (hX : va_X b L xs s s.heap) (hbl : b < s.heap.size) (h1 : vp_in (x + 1) L) (h : rA_ u v) (hP : va_P D vwCl (w_L cI cZ ad ae u v) H) (hD : va_D (fun q : Nat => s.heap.size ≤ q) (w_L cI cZ ad ae u v)) (hS : va_S (fun q : Nat => s.heap.size ≤ q) s.heap H locs) (hl : lv_has ls 4 [(0, .ref b), (1, .ref (ad 0)), (2, .ref (ae 0)), (3, .int x)]) (next : ∀ (u : cd_S) (v : ob_S) (H : Heap) (locs : List Loc), rA_ u v → va_P D vwCl (w_L cI cZ ad ae u v) H → va_D (fun q : Nat => s.heap.size ≤ q) (w_L cI cZ ad ae u v) → va_S (fun q : Nat => s.heap.size ≤ q) s.heap H locs → W p l e room_1 s m #[Value.ref b] below meth c H locs 24 893 (lw_Z below #[Value.ref b] s) (F0 m 604 ls [])) : W p l e room_1 s m #[Value.ref b] below meth c H locs 24 893 (lw_Z below #[Value.ref b] s) (F0 m 502 ls []) := by
  have hx := C.1
  have hb := C.2.1
  have hbA : ¬ (fun q : Nat => s.heap.size ≤ q) b := Nat.not_le.mpr hbl
  refine lv_aload_n hx hb dL_law_502 rfl (lv_at hl 1 rfl) ?_
  refine lv_aload_n hx hb dL_law_503 rfl (lv_at hl 0 rfl) ?_
  refine lv_iload_n hx hb dL_law_504 rfl (lv_at hl 3 rfl) ?_
  refine lv_iconst (v := 1) hx hb dL_law_505 (by decide) ?_
  refine lv_iadd hx hb dL_law_506 ?_
  refine va_sld hx hb hX hbl hbA hS h1 dL_law_507 ?_
  refine kv_p C (c_X6_latest l D cI cZ ad u (xs (x + 1).toNatClampNeg) ) (cwV 1 C.2.2.2.2.1 gL_law_X6_latest rfl rfl rfl hdX6_latest ⟨Nat.le_of_ble_eq_true rfl, Nat.le_of_ble_eq_true rfl⟩) (ci := 6) (q0 := 0) rfl rfl rfl hP hD hS (su_L6 cI cZ ad ae u v) rfl hl.1 rfl (Nat.le_of_ble_eq_true rfl) dL_law_508 ⟨Nat.le_of_ble_eq_true rfl, Nat.le_of_ble_eq_true rfl⟩ (fun H locs hP hS => ?_)
  refine lv_aload_n hx hb dL_law_511 rfl (lv_at hl 2 rfl) ?_
  refine lv_aload_n hx hb dL_law_512 rfl (lv_at hl 0 rfl) ?_
  refine lv_iload_n hx hb dL_law_513 rfl (lv_at hl 3 rfl) ?_
  refine lv_iconst (v := 1) hx hb dL_law_514 (by decide) ?_
  refine lv_iadd hx hb dL_law_515 ?_
  refine va_sld hx hb hX hbl hbA hS h1 dL_law_516 ?_
  refine kv_p C (c_X7_latest l D cI cZ ae v (xs (x + 1).toNatClampNeg) (F_L h)) (cwV 1 C.2.2.2.2.1 gL_law_X7_latest rfl rfl rfl hdX7_latest ⟨Nat.le_of_ble_eq_true rfl, Nat.le_of_ble_eq_true rfl⟩) (ci := 7) (q0 := 0) rfl rfl rfl hP hD hS (su_L7 cI cZ ad ae u v) rfl hl.1 rfl (Nat.le_of_ble_eq_true rfl) dL_law_517 ⟨Nat.le_of_ble_eq_true rfl, Nat.le_of_ble_eq_true rfl⟩ (fun H locs hP hS => ?_)
  refine lv_icmp_eq (tgt := 604) hx hb dL_law_520 (by decide) (fun hq => ?_) (fun hq => ?_)
  · exact next u v H locs h hP hD hS
  · exact absurd (T_latest h (xs (x + 1).toNatClampNeg)) hq
set_option maxHeartbeats 4000000 in
set_option maxRecDepth 100000 in
theorem lc_15 (C : cx_C p c code 4 s m #[Value.ref b] wsL_law RL D (ct_T cI cZ) (fun q : Nat => s.heap.size ≤ q)) (hX : va_X b L xs s s.heap) (hbl : b < s.heap.size) (h1 : vp_in (x + 1) L) (h : rA_ u v) (hP : va_P D vwCl (w_L cI cZ ad ae u v) H) (hD : va_D (fun q : Nat => s.heap.size ≤ q) (w_L cI cZ ad ae u v)) (hS : va_S (fun q : Nat => s.heap.size ≤ q) s.heap H locs) (hl : lv_has ls 4 [(0, .ref b), (1, .ref (ad 0)), (2, .ref (ae 0)), (3, .int x)]) (next : ∀ (u : cd_S) (v : ob_S) (H : Heap) (locs : List Loc), rA_ u v → va_P D vwCl (w_L cI cZ ad ae u v) H → va_D (fun q : Nat => s.heap.size ≤ q) (w_L cI cZ ad ae u v) → va_S (fun q : Nat => s.heap.size ≤ q) s.heap H locs → W p l e room_1 s m #[Value.ref b] below meth c H locs 24 893 (lw_Z below #[Value.ref b] s) (F0 m 604 ls [])) : W p l e room_1 s m #[Value.ref b] below meth c H locs 24 893 (lw_Z below #[Value.ref b] s) (F0 m 525 ls []) := by
  have hx := C.1
  have hb := C.2.1
  have hbA : ¬ (fun q : Nat => s.heap.size ≤ q) b := Nat.not_le.mpr hbl
  refine lv_aload_n hx hb dL_law_525 rfl (lv_at hl 1 rfl) ?_
  refine lv_aload_n hx hb dL_law_526 rfl (lv_at hl 0 rfl) ?_
  refine lv_iload_n hx hb dL_law_527 rfl (lv_at hl 3 rfl) ?_
  refine lv_iconst (v := 1) hx hb dL_law_528 (by decide) ?_
  refine lv_iadd hx hb dL_law_529 ?_
  refine va_sld hx hb hX hbl hbA hS h1 dL_law_530 ?_
  refine kv_p C (c_X6_word l D cI cZ ad u (xs (x + 1).toNatClampNeg) ) (cwV 1 C.2.2.2.2.1 gL_law_X6_word rfl rfl rfl hdX6_word ⟨Nat.le_of_ble_eq_true rfl, Nat.le_of_ble_eq_true rfl⟩) (ci := 6) (q0 := 0) rfl rfl rfl hP hD hS (su_L6 cI cZ ad ae u v) rfl hl.1 rfl (Nat.le_of_ble_eq_true rfl) dL_law_531 ⟨Nat.le_of_ble_eq_true rfl, Nat.le_of_ble_eq_true rfl⟩ (fun H locs hP hS => ?_)
  refine lv_aload_n hx hb dL_law_534 rfl (lv_at hl 2 rfl) ?_
  refine lv_aload_n hx hb dL_law_535 rfl (lv_at hl 0 rfl) ?_
  refine lv_iload_n hx hb dL_law_536 rfl (lv_at hl 3 rfl) ?_
  refine lv_iconst (v := 1) hx hb dL_law_537 (by decide) ?_
  refine lv_iadd hx hb dL_law_538 ?_
  refine va_sld hx hb hX hbl hbA hS h1 dL_law_539 ?_
  refine kv_p C (c_X7_word l D cI cZ ae v (xs (x + 1).toNatClampNeg) (F_W h).2.1) (cwV 1 C.2.2.2.2.1 gL_law_X7_word rfl rfl rfl hdX7_word ⟨Nat.le_of_ble_eq_true rfl, Nat.le_of_ble_eq_true rfl⟩) (ci := 7) (q0 := 0) rfl rfl rfl hP hD hS (su_L7 cI cZ ad ae u v) rfl hl.1 rfl (Nat.le_of_ble_eq_true rfl) dL_law_540 ⟨Nat.le_of_ble_eq_true rfl, Nat.le_of_ble_eq_true rfl⟩ (fun H locs hP hS => ?_)
  refine lv_icmp_eq (tgt := 604) hx hb dL_law_543 (by decide) (fun hq => ?_) (fun hq => ?_)
  · exact next u v H locs h hP hD hS
  · exact absurd (T_word h (xs (x + 1).toNatClampNeg)) hq
set_option maxHeartbeats 4000000 in
set_option maxRecDepth 100000 in
theorem lc_16 (C : cx_C p c code 4 s m #[Value.ref b] wsL_law RL D (ct_T cI cZ) (fun q : Nat => s.heap.size ≤ q)) (hX : va_X b L xs s s.heap) (hbl : b < s.heap.size) (h1 : vp_in (x + 1) L) (h2 : vp_in (x + 2) L) (h : rA_ u v) (hP : va_P D vwCl (w_L cI cZ ad ae u v) H) (hD : va_D (fun q : Nat => s.heap.size ≤ q) (w_L cI cZ ad ae u v)) (hS : va_S (fun q : Nat => s.heap.size ≤ q) s.heap H locs) (hl : lv_has ls 4 [(0, .ref b), (1, .ref (ad 0)), (2, .ref (ae 0)), (3, .int x)]) (next : ∀ (u : cd_S) (v : ob_S) (H : Heap) (locs : List Loc), rA_ u v → va_P D vwCl (w_L cI cZ ad ae u v) H → va_D (fun q : Nat => s.heap.size ≤ q) (w_L cI cZ ad ae u v) → va_S (fun q : Nat => s.heap.size ≤ q) s.heap H locs → W p l e room_1 s m #[Value.ref b] below meth c H locs 24 893 (lw_Z below #[Value.ref b] s) (F0 m 604 ls [])) : W p l e room_1 s m #[Value.ref b] below meth c H locs 24 893 (lw_Z below #[Value.ref b] s) (F0 m 548 ls []) := by
  have hx := C.1
  have hb := C.2.1
  have hbA : ¬ (fun q : Nat => s.heap.size ≤ q) b := Nat.not_le.mpr hbl
  refine lv_aload_n hx hb dL_law_548 rfl (lv_at hl 1 rfl) ?_
  refine lv_aload_n hx hb dL_law_549 rfl (lv_at hl 0 rfl) ?_
  refine lv_iload_n hx hb dL_law_550 rfl (lv_at hl 3 rfl) ?_
  refine lv_iconst (v := 1) hx hb dL_law_551 (by decide) ?_
  refine lv_iadd hx hb dL_law_552 ?_
  refine va_sld hx hb hX hbl hbA hS h1 dL_law_553 ?_
  refine lv_aload_n hx hb dL_law_554 rfl (lv_at hl 0 rfl) ?_
  refine lv_iload_n hx hb dL_law_555 rfl (lv_at hl 3 rfl) ?_
  refine lv_iconst (v := 2) hx hb dL_law_556 (by decide) ?_
  refine lv_iadd hx hb dL_law_557 ?_
  refine va_sld hx hb hX hbl hbA hS h2 dL_law_558 ?_
  refine kv_p C (c_X6_later l D cI cZ ad u (xs (x + 1).toNatClampNeg) (xs (x + 2).toNatClampNeg) ) (cwV 2 C.2.2.2.2.1 gL_law_X6_later rfl rfl rfl hdX6_later ⟨Nat.le_of_ble_eq_true rfl, Nat.le_of_ble_eq_true rfl⟩) (ci := 6) (q0 := 0) rfl rfl rfl hP hD hS (su_L6 cI cZ ad ae u v) rfl hl.1 rfl (Nat.le_of_ble_eq_true rfl) dL_law_559 ⟨Nat.le_of_ble_eq_true rfl, Nat.le_of_ble_eq_true rfl⟩ (fun H locs hP hS => ?_)
  refine lv_aload_n hx hb dL_law_562 rfl (lv_at hl 2 rfl) ?_
  refine lv_aload_n hx hb dL_law_563 rfl (lv_at hl 0 rfl) ?_
  refine lv_iload_n hx hb dL_law_564 rfl (lv_at hl 3 rfl) ?_
  refine lv_iconst (v := 1) hx hb dL_law_565 (by decide) ?_
  refine lv_iadd hx hb dL_law_566 ?_
  refine va_sld hx hb hX hbl hbA hS h1 dL_law_567 ?_
  refine lv_aload_n hx hb dL_law_568 rfl (lv_at hl 0 rfl) ?_
  refine lv_iload_n hx hb dL_law_569 rfl (lv_at hl 3 rfl) ?_
  refine lv_iconst (v := 2) hx hb dL_law_570 (by decide) ?_
  refine lv_iadd hx hb dL_law_571 ?_
  refine va_sld hx hb hX hbl hbA hS h2 dL_law_572 ?_
  refine kv_p C (c_X7_later l D cI cZ ae v (xs (x + 1).toNatClampNeg) (xs (x + 2).toNatClampNeg) (F_Q h).2) (cwV 2 C.2.2.2.2.1 gL_law_X7_later rfl rfl rfl hdX7_later ⟨Nat.le_of_ble_eq_true rfl, Nat.le_of_ble_eq_true rfl⟩) (ci := 7) (q0 := 0) rfl rfl rfl hP hD hS (su_L7 cI cZ ad ae u v) rfl hl.1 rfl (Nat.le_of_ble_eq_true rfl) dL_law_573 ⟨Nat.le_of_ble_eq_true rfl, Nat.le_of_ble_eq_true rfl⟩ (fun H locs hP hS => ?_)
  refine lv_icmp_eq (tgt := 604) hx hb dL_law_576 (by decide) (fun hq => ?_) (fun hq => ?_)
  · exact next u v H locs h hP hD hS
  · exact absurd (T_later h (xs (x + 1).toNatClampNeg) (xs (x + 2).toNatClampNeg)) hq
set_option maxHeartbeats 4000000 in
set_option maxRecDepth 100000 in
theorem lc_17 (C : cx_C p c code 4 s m #[Value.ref b] wsL_law RL D (ct_T cI cZ) (fun q : Nat => s.heap.size ≤ q)) (hX : va_X b L xs s s.heap) (hbl : b < s.heap.size) (h1 : vp_in (x + 1) L) (h : rA_ u v) (hP : va_P D vwCl (w_L cI cZ ad ae u v) H) (hD : va_D (fun q : Nat => s.heap.size ≤ q) (w_L cI cZ ad ae u v)) (hS : va_S (fun q : Nat => s.heap.size ≤ q) s.heap H locs) (hl : lv_has ls 4 [(0, .ref b), (1, .ref (ad 0)), (2, .ref (ae 0)), (3, .int x)]) (next : ∀ (u : cd_S) (v : ob_S) (H : Heap) (locs : List Loc), rA_ u v → va_P D vwCl (w_L cI cZ ad ae u v) H → va_D (fun q : Nat => s.heap.size ≤ q) (w_L cI cZ ad ae u v) → va_S (fun q : Nat => s.heap.size ≤ q) s.heap H locs → W p l e room_1 s m #[Value.ref b] below meth c H locs 24 893 (lw_Z below #[Value.ref b] s) (F0 m 604 ls [])) : W p l e room_1 s m #[Value.ref b] below meth c H locs 24 893 (lw_Z below #[Value.ref b] s) (F0 m 581 ls []) := by
  have hx := C.1
  have hb := C.2.1
  have hbA : ¬ (fun q : Nat => s.heap.size ≤ q) b := Nat.not_le.mpr hbl
  refine lv_aload_n hx hb dL_law_581 rfl (lv_at hl 1 rfl) ?_
  refine lv_aload_n hx hb dL_law_582 rfl (lv_at hl 0 rfl) ?_
  refine lv_iload_n hx hb dL_law_583 rfl (lv_at hl 3 rfl) ?_
  refine lv_iconst (v := 1) hx hb dL_law_584 (by decide) ?_
  refine lv_iadd hx hb dL_law_585 ?_
  refine va_sld hx hb hX hbl hbA hS h1 dL_law_586 ?_
  refine kv_p C (c_X6_count l D cI cZ ad u (xs (x + 1).toNatClampNeg) (F_B h).2.2 (F_c6 h).2) (cwV 1 C.2.2.2.2.1 gL_law_X6_count rfl rfl rfl hdX6_count ⟨Nat.le_of_ble_eq_true rfl, Nat.le_of_ble_eq_true rfl⟩) (ci := 6) (q0 := 0) rfl rfl rfl hP hD hS (su_L6 cI cZ ad ae u v) rfl hl.1 rfl (Nat.le_of_ble_eq_true rfl) dL_law_587 ⟨Nat.le_of_ble_eq_true rfl, Nat.le_of_ble_eq_true rfl⟩ (fun H locs hP hS => ?_)
  refine lv_aload_n hx hb dL_law_590 rfl (lv_at hl 2 rfl) ?_
  refine lv_aload_n hx hb dL_law_591 rfl (lv_at hl 0 rfl) ?_
  refine lv_iload_n hx hb dL_law_592 rfl (lv_at hl 3 rfl) ?_
  refine lv_iconst (v := 1) hx hb dL_law_593 (by decide) ?_
  refine lv_iadd hx hb dL_law_594 ?_
  refine va_sld hx hb hX hbl hbA hS h1 dL_law_595 ?_
  refine kv_p C (c_X7_count l D cI cZ ae v (xs (x + 1).toNatClampNeg) (F_B h).2.1) (cwV 1 C.2.2.2.2.1 gL_law_X7_count rfl rfl rfl hdX7_count ⟨Nat.le_of_ble_eq_true rfl, Nat.le_of_ble_eq_true rfl⟩) (ci := 7) (q0 := 0) rfl rfl rfl hP hD hS (su_L7 cI cZ ad ae u v) rfl hl.1 rfl (Nat.le_of_ble_eq_true rfl) dL_law_596 ⟨Nat.le_of_ble_eq_true rfl, Nat.le_of_ble_eq_true rfl⟩ (fun H locs hP hS => ?_)
  refine lv_icmp_eq (tgt := 604) hx hb dL_law_599 (by decide) (fun hq => ?_) (fun hq => ?_)
  · exact next u v H locs h hP hD hS
  · exact absurd (T_count h (xs (x + 1).toNatClampNeg)) hq
set_option maxHeartbeats 4000000 in
set_option maxRecDepth 100000 in
theorem law_loop (C : cx_C p c code 4 s m #[Value.ref b] wsL_law RL D (ct_T cI cZ) (fun q : Nat => s.heap.size ≤ q)) (hX : va_X b L xs s s.heap) (hbl : b < s.heap.size) (hr : meth.sig.returnType = ret) (hlocks : meth.locks = false) (hL : L ≤ 2560) : ∀ (n i : Nat), L + 1 ≤ i + n → i ≤ L → ∀ (x : Int32), x = nI i → ∀ (u : cd_S) (v : ob_S) (H : Heap) (locs : List Loc), rA_ u v → va_P D vwCl (w_L cI cZ ad ae u v) H → va_D (fun q : Nat => s.heap.size ≤ q) (w_L cI cZ ad ae u v) → va_S (fun q : Nat => s.heap.size ≤ q) s.heap H locs → ∀ ls : Array Slot, lv_has ls 4 [(0, .ref b), (1, .ref (ad 0)), (2, .ref (ae 0)), (3, .int x)] → W p l e room_1 s m #[Value.ref b] below meth c H locs 24 893 (lw_Z below #[Value.ref b] s) (F0 m 18 ls []) := by
  have hx := C.1
  have hb := C.2.1
  have hbA : ¬ (fun q : Nat => s.heap.size ≤ q) b := Nat.not_le.mpr hbl
  intro n
  induction n with
  | zero => intro i h1 h2; omega
  | succ n ih =>
    intro i hn hi x ex u v H locs h hP hD hS ls hl
    refine lv_iload_n hx hb dL_law_18 rfl (lv_at hl 3 rfl) ?_
    refine lv_aload_n hx hb dL_law_19 rfl (lv_at hl 0 rfl) ?_
    refine va_slen hx hb hX hbl hbA hS dL_law_20 ?_
    refine lv_iconst (v := 5) hx hb dL_law_21 (by decide) ?_
    refine lv_isub hx hb dL_law_22 ?_
    refine lv_icmp_gt (tgt := 610) hx hb dL_law_23 (by decide) (fun hq => ?_) (fun hq => ?_)
    · refine lv_iconst (v := 1) hx hb dL_law_610 (by decide) ?_
      refine va_forget (fun q hq => hS.2.2 q hq) ?_
      refine W.widen (k := 600000) (n := 7302250) (Nat.le_of_ble_eq_true rfl) (Nat.le_of_ble_eq_true rfl) ?_
      exact lw_ret hx hb hr hlocks dL_law_611
    · have e5 : (Int32.ofNat L - 5).toInt = (L : Int) - 5 := sub_nI (p := 5) (q := L) (by decide) (by omega)
      have h5 := nlt_t hq
      rw [e5, ex, nI_toInt (by omega)] at h5
      have hi4 : i + 4 < L := by omega
      have h0 : vp_in x L := by rw [ex]; exact vp_in_nI (by omega) (by omega)
      have h1 : vp_in (x + 1) L := by rw [ex, show nI i + 1 = nI (i + 1) from nI_add i 1]; exact vp_in_nI (by omega) (by omega)
      have h2 : vp_in (x + 2) L := by rw [ex, show nI i + 2 = nI (i + 2) from nI_add i 2]; exact vp_in_nI (by omega) (by omega)
      have h3 : vp_in (x + 3) L := by rw [ex, show nI i + 3 = nI (i + 3) from nI_add i 3]; exact vp_in_nI (by omega) (by omega)
      have h4 : vp_in (x + 4) L := by rw [ex, show nI i + 4 = nI (i + 4) from nI_add i 4]; exact vp_in_nI (by omega) (by omega)
      have next : ∀ (u : cd_S) (v : ob_S) (H : Heap) (locs : List Loc), rA_ u v → va_P D vwCl (w_L cI cZ ad ae u v) H → va_D (fun q : Nat => s.heap.size ≤ q) (w_L cI cZ ad ae u v) → va_S (fun q : Nat => s.heap.size ≤ q) s.heap H locs → W p l e room_1 s m #[Value.ref b] below meth c H locs 24 893 (lw_Z below #[Value.ref b] s) (F0 m 604 ls []) := by
        intro u v H locs h hP hD hS
        obtain ⟨y, ey⟩ : ∃ y : Int32, y = x + 5 := ⟨_, rfl⟩
        refine lv_iinc (v := y) (lv' := [(3, .int y), (0, .ref b), (1, .ref (ad 0)), (2, .ref (ae 0))]) hx hb dL_law_604 hl (k := 3) rfl (by rw [ey]; rfl) (by decide) rfl (fun ls hl => ?_)
        refine lv_goto (tgt := 18) hx hb dL_law_607 (by decide) ?_
        exact ih (i + 5) (by omega) (by omega) y (by rw [ey, ex]; exact nI_add i 5) u v H locs h hP hD hS ls (lv_sub hl [1, 2, 3, 0] rfl)
      refine lv_aload_n hx hb dL_law_26 rfl (lv_at hl 0 rfl) ?_
      refine lv_iload_n hx hb dL_law_27 rfl (lv_at hl 3 rfl) ?_
      refine va_sld hx hb hX hbl hbA hS h0 dL_law_28 ?_
      refine lv_bipush (v := 31) hx hb dL_law_29 (by decide) ?_
      refine lv_iand hx hb dL_law_31 ?_
      refine lv_topi (fun z ez => ?_)
      by_cases hz : 0 ≤ z.toInt ∧ z.toInt ≤ 17
      · obtain ⟨k, k1, k2, k3⟩ := of_rng (n := 17) hz.1 hz.2
        have kk : k = 0 ∨ k = 1 ∨ k = 2 ∨ k = 3 ∨ k = 4 ∨ k = 5 ∨ k = 6 ∨ k = 7 ∨ k = 8 ∨ k = 9 ∨ k = 10 ∨ k = 11 ∨ k = 12 ∨ k = 13 ∨ k = 14 ∨ k = 15 ∨ k = 16 ∨ k = 17 := by omega
        rcases kk with q | q | q | q | q | q | q | q | q | q | q | q | q | q | q | q | q | q
        · have z3 : z.toInt = 0 := by rw [k3, q]; rfl
          refine lv_tableIn (off := 88) (tgt := 120) hx hb dL_law_32 (by rw [z3]; decide) (by rw [z3]; decide) (by rw [z3]; rfl) (by decide) ?_
          exact lc_0 C hX hbl h1 h2 h3 h4 h hP hD hS hl next
        · have z3 : z.toInt = 1 := by rw [k3, q]; rfl
          refine lv_tableIn (off := 141) (tgt := 173) hx hb dL_law_32 (by rw [z3]; decide) (by rw [z3]; decide) (by rw [z3]; rfl) (by decide) ?_
          exact lc_1 C hX hbl h1 h hP hD hS hl next
        · have z3 : z.toInt = 2 := by rw [k3, q]; rfl
          refine lv_tableIn (off := 164) (tgt := 196) hx hb dL_law_32 (by rw [z3]; decide) (by rw [z3]; decide) (by rw [z3]; rfl) (by decide) ?_
          exact lc_2 C hX hbl h1 h hP hD hS hl next
        · have z3 : z.toInt = 3 := by rw [k3, q]; rfl
          refine lv_tableIn (off := 187) (tgt := 219) hx hb dL_law_32 (by rw [z3]; decide) (by rw [z3]; decide) (by rw [z3]; rfl) (by decide) ?_
          exact lc_3 C hX hbl h1 h hP hD hS hl next
        · have z3 : z.toInt = 4 := by rw [k3, q]; rfl
          refine lv_tableIn (off := 210) (tgt := 242) hx hb dL_law_32 (by rw [z3]; decide) (by rw [z3]; decide) (by rw [z3]; rfl) (by decide) ?_
          exact lc_4 C hX hbl  h hP hD hS hl next
        · have z3 : z.toInt = 5 := by rw [k3, q]; rfl
          refine lv_tableIn (off := 223) (tgt := 255) hx hb dL_law_32 (by rw [z3]; decide) (by rw [z3]; decide) (by rw [z3]; rfl) (by decide) ?_
          exact lc_5 C hX hbl h1 h2 h hP hD hS hl next
        · have z3 : z.toInt = 6 := by rw [k3, q]; rfl
          refine lv_tableIn (off := 256) (tgt := 288) hx hb dL_law_32 (by rw [z3]; decide) (by rw [z3]; decide) (by rw [z3]; rfl) (by decide) ?_
          exact lc_6 C hX hbl h1 h hP hD hS hl next
        · have z3 : z.toInt = 7 := by rw [k3, q]; rfl
          refine lv_tableIn (off := 279) (tgt := 311) hx hb dL_law_32 (by rw [z3]; decide) (by rw [z3]; decide) (by rw [z3]; rfl) (by decide) ?_
          exact lc_7 C hX hbl h1 h2 h3 h hP hD hS hl next
        · have z3 : z.toInt = 8 := by rw [k3, q]; rfl
          refine lv_tableIn (off := 322) (tgt := 354) hx hb dL_law_32 (by rw [z3]; decide) (by rw [z3]; decide) (by rw [z3]; rfl) (by decide) ?_
          exact lc_8 C hX hbl h1 h2 h hP hD hS hl next
        · have z3 : z.toInt = 9 := by rw [k3, q]; rfl
          refine lv_tableIn (off := 355) (tgt := 387) hx hb dL_law_32 (by rw [z3]; decide) (by rw [z3]; decide) (by rw [z3]; rfl) (by decide) ?_
          exact lc_9 C hX hbl h1 h2 h hP hD hS hl next
        · have z3 : z.toInt = 10 := by rw [k3, q]; rfl
          refine lv_tableIn (off := 388) (tgt := 420) hx hb dL_law_32 (by rw [z3]; decide) (by rw [z3]; decide) (by rw [z3]; rfl) (by decide) ?_
          exact lc_10 C hX hbl  h hP hD hS hl next
        · have z3 : z.toInt = 11 := by rw [k3, q]; rfl
          refine lv_tableIn (off := 401) (tgt := 433) hx hb dL_law_32 (by rw [z3]; decide) (by rw [z3]; decide) (by rw [z3]; rfl) (by decide) ?_
          exact lc_11 C hX hbl h1 h hP hD hS hl next
        · have z3 : z.toInt = 12 := by rw [k3, q]; rfl
          refine lv_tableIn (off := 424) (tgt := 456) hx hb dL_law_32 (by rw [z3]; decide) (by rw [z3]; decide) (by rw [z3]; rfl) (by decide) ?_
          exact lc_12 C hX hbl  h hP hD hS hl next
        · have z3 : z.toInt = 13 := by rw [k3, q]; rfl
          refine lv_tableIn (off := 437) (tgt := 469) hx hb dL_law_32 (by rw [z3]; decide) (by rw [z3]; decide) (by rw [z3]; rfl) (by decide) ?_
          exact lc_13 C hX hbl h1 h2 h hP hD hS hl next
        · have z3 : z.toInt = 14 := by rw [k3, q]; rfl
          refine lv_tableIn (off := 470) (tgt := 502) hx hb dL_law_32 (by rw [z3]; decide) (by rw [z3]; decide) (by rw [z3]; rfl) (by decide) ?_
          exact lc_14 C hX hbl h1 h hP hD hS hl next
        · have z3 : z.toInt = 15 := by rw [k3, q]; rfl
          refine lv_tableIn (off := 493) (tgt := 525) hx hb dL_law_32 (by rw [z3]; decide) (by rw [z3]; decide) (by rw [z3]; rfl) (by decide) ?_
          exact lc_15 C hX hbl h1 h hP hD hS hl next
        · have z3 : z.toInt = 16 := by rw [k3, q]; rfl
          refine lv_tableIn (off := 516) (tgt := 548) hx hb dL_law_32 (by rw [z3]; decide) (by rw [z3]; decide) (by rw [z3]; rfl) (by decide) ?_
          exact lc_16 C hX hbl h1 h2 h hP hD hS hl next
        · have z3 : z.toInt = 17 := by rw [k3, q]; rfl
          refine lv_tableIn (off := 549) (tgt := 581) hx hb dL_law_32 (by rw [z3]; decide) (by rw [z3]; decide) (by rw [z3]; rfl) (by decide) ?_
          exact lc_17 C hX hbl h1 h hP hD hS hl next
      · refine lv_tableOut (tgt := 604) hx hb dL_law_32 (by omega) (by decide) ?_
        exact next u v H locs h hP hD hS
end LAW
