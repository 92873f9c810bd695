/-! States of objects: scalar fields by their number, array fields by theirs. -/
abbrev ob_S : Type := (Nat → Int32) × (Nat → Nat → Int32)
/-- a scalar field is set -/
def ob_i (u : ob_S) (k : Nat) (v : Int32) : ob_S := (upd u.1 k v, u.2)
/-- a place of an array field is set -/
def ob_a (u : ob_S) (k i : Nat) (v : Int32) : ob_S := (u.1, va_up u.2 k (upd (u.2 k) i v))
/-- the card: eight objects (0 its own scalars, 1 Memory, 2 text, 3 secret, 4 Queue, 5 Eraser, 6 Stream, 7 Link) -/
abbrev cd_S : Type := Nat → ob_S
def cd_i (u : cd_S) (k : Nat) (v : Int32) : cd_S := va_up u 0 (ob_i (u 0) k v)
/-! Worlds -/
abbrev ct_T (cI cZ : ClassId) : List (ClassId × FieldType) := [(cI, .int), (cZ, .boolean)]
/-- the nest link that Memory's calls of asNumber need -/
def nz_N (U : State) : Prop := va_Nw (Cond.methodLinkNest RX3 61 yX6_asNumber "BlockCard") U
/-- what a method's start asks of the heap -/
def ct_B (D : va_G) (tys : List (ClassId × FieldType)) (w : va_W) (sz : Nat) : State → Prop := fun U => U.heap.size = sz ∧ va_P D vwCl w U.heap ∧ va_K D vwCl tys U ∧ va_D (fun _ => True) w ∧ nz_N U
def ct_E {S : Type} (D : va_G) (tys : List (ClassId × FieldType)) (w1 : S → va_W) (A : Nat → Prop) : S → State → Prop := fun u t => va_P D vwCl (w1 u) t.heap ∧ va_K D vwCl tys t ∧ va_D A (w1 u)
def ct_Qi {S : Type} (D : va_G) (tys : List (ClassId × FieldType)) (w1 : S → va_W) (F : Int32 × S) (A : Nat → Prop) : Array Value → State → Outcome → State → Prop := va_Qi (fun (r : Int32) (u : S) => r = F.1 ∧ u = F.2) (ct_E D tys w1 A) A
def ct_Qv {S : Type} (D : va_G) (tys : List (ClassId × FieldType)) (w1 : S → va_W) (F : S) (A : Nat → Prop) : Array Value → State → Outcome → State → Prop := va_Qv (fun (u : S) => u = F) (ct_E D tys w1 A) A
def ct_Qp (D : va_G) (tys : List (ClassId × FieldType)) (v : Int32) (A : Nat → Prop) : Array Value → State → Outcome → State → Prop := va_Qi (fun (r : Int32) (_ : Unit) => r = v) (fun _ t => va_K D vwCl tys t) A
/-- contracts: an int and a new world; a new world; an int alone (nothing is written) -/
def Ct_i (l : Launch) (y : MethodName) (ws : List Cond) (rm : Room) (D : va_G) (tys : List (ClassId × FieldType)) (av : List Value) (w0 : va_W) {S : Type} (w1 : S → va_W) (F : Int32 × S) : Prop :=
  ∀ sz : Nat, Met l y ws rm (va_Pc av (ct_B D tys w0 sz)) (ct_Qi D tys w1 F (va_A w0 sz)) 0 0 (va_A w0 sz)
def Ct_v (l : Launch) (y : MethodName) (ws : List Cond) (rm : Room) (D : va_G) (tys : List (ClassId × FieldType)) (av : List Value) (w0 : va_W) {S : Type} (w1 : S → va_W) (F : S) : Prop :=
  ∀ sz : Nat, Met l y ws rm (va_Pc av (ct_B D tys w0 sz)) (ct_Qv D tys w1 F (va_A w0 sz)) 0 0 (va_A w0 sz)
def Ct_p (l : Launch) (y : MethodName) (ws : List Cond) (rm : Room) (D : va_G) (tys : List (ClassId × FieldType)) (av : List Value) (w0 : va_W) (v : Int32) : Prop :=
  ∀ sz : Nat, Met l y ws rm (va_Pc av (ct_B D tys w0 sz)) (ct_Qp D tys v (va_A [] sz)) 0 0 (va_A [] sz)
/-- what stands still inside a method -/
def cx_C (p : Program) (c : Code) (cc : ByteArray) (nL : Nat) (s : State) (m : MethodId) (args : Array Value) (Ts : List Cond) (own : String) (D : va_G) (tys : List (ClassId × FieldType)) (A : Nat → Prop) : Prop :=
  p.tables.exec = Jvm.exec ∧ c.code = cc ∧ c.maxLocals = nL ∧ s.vm.findClass own = some m.cls ∧ (∀ w ∈ Ts, w.before args s = true) ∧ va_K D vwCl tys s ∧ (∀ q : Nat, s.heap.size ≤ q → A q) ∧ nz_N s
theorem fm_of {α β : Type} {l : List α} {f : α → Option β} {r : List β} (h : l.map f = r.map some) : l.filterMap f = r := by
  have h1 : l.filterMap f = (l.map f).filterMap id := by rw [List.filterMap_map]; rfl
  rw [h1, h, List.filterMap_map]
  exact List.filterMap_some
theorem bz_n {v : Int32} (h : v = 0 ∨ v = 1) : v &&& 1 = v := by rcases h with rfl | rfl <;> decide
theorem bz_f {v : Int32} (h : v = 0 ∨ v = 1) : fits .boolean (.int v) = true := by rcases h with rfl | rfl <;> decide
theorem bz_ite {c : Prop} [Decidable c] {a b : Int32} (ha : a = 0 ∨ a = 1) (hb : b = 0 ∨ b = 1) : (if c then a else b) = 0 ∨ (if c then a else b) = 1 := by split <;> assumption
section BEN
variable {l : Launch} {y : MethodName} {ws ws' : List Cond} {rm : Room} {D : va_G} {tys : List (ClassId × FieldType)} {av : List Value} {w0 : va_W} {S : Type} {w1 : S → va_W} {cc : ByteArray} {maxL : Nat} {ret : Option FieldType} {own : String}
set_option maxHeartbeats 4000000 in
theorem en_i {F : Int32 × S} (hy : plainName y.cls = true) (hw : ws = Cond.code y cc maxL ret :: ws') (ho : y.cls = own) (hn : (lg_sl av).length ≤ maxL)
    (body : ∀ (p : Program) (e : Env) (s : State) (m : MethodId) (args : Array Value) (below : List Frame) (meth : Method) (c : Code) (A : Nat → Prop) (ls : Array Slot), cx_C p c cc maxL s m args ws own D tys A → meth.sig.returnType = ret → meth.locks = false → va_P D vwCl w0 s.heap → va_D A w0 → va_S A s.heap s.heap [] → lv_has ls maxL (lv_args 0 av) → W p l e rm s m args below meth c s.heap [] 0 0 (MQ below (ct_Qi D tys w1 F A) args s 0 0 A) (F0 m 0 ls [])) : Ct_i l y ws rm D tys av w0 w1 F := by
  intro sz
  refine Met.ofW (cc := cc) (maxL := maxL) (ret := ret) hy hw ?_
  intro p e s m args below meth c s₁ B hml hv
  obtain ⟨rfl, hsz, hP, hK, hD0, hnz⟩ := hv
  have hts := atoms_spec (ws := ws) B.pre
  have hown : s.vm.findClass own = some m.cls := ho ▸ findClass_of_methodNamed B.named
  subst hsz
  have hD := hD0.self (sz := s.heap.size)
  generalize hAe : va_A w0 s.heap.size = A at hD ⊢
  have hA : ∀ q : Nat, s.heap.size ≤ q → A q := fun q h => by rw [← hAe]; exact Or.inr h
  have hl := lv_entry av (n := maxL) hn
  rw [lg_entry_eq]
  generalize (lg_sl av ++ List.replicate (maxL - (lg_sl av).length) Slot.unset).toArray = ls at hl ⊢
  exact body p e s m _ below meth c A ls ⟨B.exec, B.bytes, hml, hown, hts, hK, hA, hnz⟩ B.returns B.notSynchronized hP hD va_S.rf hl
set_option maxHeartbeats 4000000 in
theorem en_v {F : S} (hy : plainName y.cls = true) (hw : ws = Cond.code y cc maxL ret :: ws') (ho : y.cls = own) (hn : (lg_sl av).length ≤ maxL)
    (body : ∀ (p : Program) (e : Env) (s : State) (m : MethodId) (args : Array Value) (below : List Frame) (meth : Method) (c : Code) (A : Nat → Prop) (ls : Array Slot), cx_C p c cc maxL s m args ws own D tys A → meth.sig.returnType = ret → meth.locks = false → va_P D vwCl w0 s.heap → va_D A w0 → va_S A s.heap s.heap [] → lv_has ls maxL (lv_args 0 av) → W p l e rm s m args below meth c s.heap [] 0 0 (MQ below (ct_Qv D tys w1 F A) args s 0 0 A) (F0 m 0 ls [])) : Ct_v l y ws rm D tys av w0 w1 F := by
  intro sz
  refine Met.ofW (cc := cc) (maxL := maxL) (ret := ret) hy hw ?_
  intro p e s m args below meth c s₁ B hml hv
  obtain ⟨rfl, hsz, hP, hK, hD0, hnz⟩ := hv
  have hts := atoms_spec (ws := ws) B.pre
  have hown : s.vm.findClass own = some m.cls := ho ▸ findClass_of_methodNamed B.named
  subst hsz
  have hD := hD0.self (sz := s.heap.size)
  generalize hAe : va_A w0 s.heap.size = A at hD ⊢
  have hA : ∀ q : Nat, s.heap.size ≤ q → A q := fun q h => by rw [← hAe]; exact Or.inr h
  have hl := lv_entry av (n := maxL) hn
  rw [lg_entry_eq]
  generalize (lg_sl av ++ List.replicate (maxL - (lg_sl av).length) Slot.unset).toArray = ls at hl ⊢
  exact body p e s m _ below meth c A ls ⟨B.exec, B.bytes, hml, hown, hts, hK, hA, hnz⟩ B.returns B.notSynchronized hP hD va_S.rf hl
set_option maxHeartbeats 4000000 in
theorem en_p {v : Int32} (hy : plainName y.cls = true) (hw : ws = Cond.code y cc maxL ret :: ws') (ho : y.cls = own) (hn : (lg_sl av).length ≤ maxL)
    (body : ∀ (p : Program) (e : Env) (s : State) (m : MethodId) (args : Array Value) (below : List Frame) (meth : Method) (c : Code) (A : Nat → Prop) (ls : Array Slot), cx_C p c cc maxL s m args ws own D tys A → meth.sig.returnType = ret → meth.locks = false → va_P D vwCl w0 s.heap → va_D (fun _ => True) w0 → va_S A s.heap s.heap [] → lv_has ls maxL (lv_args 0 av) → W p l e rm s m args below meth c s.heap [] 0 0 (MQ below (ct_Qp D tys v A) args s 0 0 A) (F0 m 0 ls [])) : Ct_p l y ws rm D tys av w0 v := by
  intro sz
  refine Met.ofW (cc := cc) (maxL := maxL) (ret := ret) hy hw ?_
  intro p e s m args below meth c s₁ B hml hv
  obtain ⟨rfl, hsz, hP, hK, hD0, hnz⟩ := hv
  have hts := atoms_spec (ws := ws) B.pre
  have hown : s.vm.findClass own = some m.cls := ho ▸ findClass_of_methodNamed B.named
  subst hsz
  generalize hAe : va_A ([] : va_W) s.heap.size = A at ⊢
  have hA : ∀ q : Nat, s.heap.size ≤ q → A q := fun q h => by rw [← hAe]; exact Or.inr h
  have hl := lv_entry av (n := maxL) hn
  rw [lg_entry_eq]
  generalize (lg_sl av ++ List.replicate (maxL - (lg_sl av).length) Slot.unset).toArray = ls at hl ⊢
  exact body p e s m _ below meth c A ls ⟨B.exec, B.bytes, hml, hown, hts, hK, hA, hnz⟩ B.returns B.notSynchronized hP hD0 va_S.rf hl
end BEN
section BRT
variable {p : Program} {l : Launch} {e : Env} {R : Room} {s : State} {m : MethodId} {args : Array Value} {below : List Frame} {meth : Method} {c : Code} {H : Heap} {locs : List Loc} {cells slots : Nat} {Q : State → Prop}
variable {cc : ByteArray} {nL : Nat} {Ts : List Cond} {own : String} {D : va_G} {tys : List (ClassId × FieldType)} {A : Nat → Prop} {pc : Nat} {ls : Array Slot}
theorem rt_i {S : Type} {w1 : S → va_W} {F : Int32 × S} {v : Int32} {u : S} (C : cx_C p c cc nL s m args Ts own D tys A) (hr : meth.sig.returnType = some .int) (hlk : meth.locks = false) (hP : va_P D vwCl (w1 u) H) (hD : va_D A (w1 u)) (hS : va_S A s.heap H locs) (hF : F = (v, u)) (hdg : decode cc pc = .ok (.ireturn, 1)) : W p l e R s m args below meth c H locs 0 0 (MQ below (ct_Qi D tys w1 F A) args s 0 0 A) (F0 m pc ls [.int v]) :=
  W.iret C.1 C.2.1 hr (fun t ht hW => ⟨⟨v, u, rfl, ⟨by rw [hF], by rw [hF]⟩, by rw [ht]; exact hP, va_K.moved hW.alike C.2.2.2.2.2.1, hD⟩, hS.F ht⟩) hS.2.2 hdg hlk
theorem rt_z {S : Type} {w1 : S → va_W} {F : Int32 × S} {v : Int32} {u : S} (C : cx_C p c cc nL s m args Ts own D tys A) (hr : meth.sig.returnType = some .boolean) (hlk : meth.locks = false) (hz : v = 0 ∨ v = 1) (hP : va_P D vwCl (w1 u) H) (hD : va_D A (w1 u)) (hS : va_S A s.heap H locs) (hF : F = (v, u)) (hdg : decode cc pc = .ok (.ireturn, 1)) : W p l e R s m args below meth c H locs 0 0 (MQ below (ct_Qi D tys w1 F A) args s 0 0 A) (F0 m pc ls [.int v]) :=
  W.zret C.1 C.2.1 hr (by show Value.int (v &&& 1) = Value.int v; rw [bz_n hz]) (fun t ht hW => ⟨⟨v, u, rfl, ⟨by rw [hF], by rw [hF]⟩, by rw [ht]; exact hP, va_K.moved hW.alike C.2.2.2.2.2.1, hD⟩, hS.F ht⟩) hS.2.2 hdg hlk
theorem rt_v {S : Type} {w1 : S → va_W} {F : S} {u : S} (C : cx_C p c cc nL s m args Ts own D tys A) (hr : meth.sig.returnType = none) (hlk : meth.locks = false) (hP : va_P D vwCl (w1 u) H) (hD : va_D A (w1 u)) (hS : va_S A s.heap H locs) (hF : F = u) (hdg : decode cc pc = .ok (.return_, 1)) : W p l e R s m args below meth c H locs 0 0 (MQ below (ct_Qv D tys w1 F A) args s 0 0 A) (F0 m pc ls []) :=
  W.vret C.1 C.2.1 hr (fun t ht hW => ⟨⟨u, rfl, hF.symm, by rw [ht]; exact hP, va_K.moved hW.alike C.2.2.2.2.2.1, hD⟩, hS.F ht⟩) hS.2.2 hdg hlk
theorem rt_p {v w : Int32} (C : cx_C p c cc nL s m args Ts own D tys A) (hr : meth.sig.returnType = some .int) (hlk : meth.locks = false) (hS : va_S A s.heap H locs) (hF : w = v) (hdg : decode cc pc = .ok (.ireturn, 1)) : W p l e R s m args below meth c H locs 0 0 (MQ below (ct_Qp D tys w A) args s 0 0 A) (F0 m pc ls [.int v]) :=
  W.iret C.1 C.2.1 hr (fun t ht hW => ⟨⟨v, (), rfl, hF.symm, va_K.moved hW.alike C.2.2.2.2.2.1⟩, hS.F ht⟩) hS.2.2 hdg hlk
theorem rt_q {v w : Int32} (C : cx_C p c cc nL s m args Ts own D tys A) (hr : meth.sig.returnType = some .boolean) (hlk : meth.locks = false) (hz : v = 0 ∨ v = 1) (hS : va_S A s.heap H locs) (hF : w = v) (hdg : decode cc pc = .ok (.ireturn, 1)) : W p l e R s m args below meth c H locs 0 0 (MQ below (ct_Qp D tys w A) args s 0 0 A) (F0 m pc ls [.int v]) :=
  W.zret C.1 C.2.1 hr (by show Value.int (v &&& 1) = Value.int v; rw [bz_n hz]) (fun t ht hW => ⟨⟨v, (), rfl, hF.symm, va_K.moved hW.alike C.2.2.2.2.2.1⟩, hS.F ht⟩) hS.2.2 hdg hlk
/-- two roads that meet with a number on the stack -/
theorem jn_i {g : Int32 → JFrame} {G : JFrame} (v : Int32) (k : ∀ x : Int32, x = v → W p l e R s m args below meth c H locs cells slots Q (g x)) (r : (∀ x : Int32, x = v → W p l e R s m args below meth c H locs cells slots Q (g x)) → W p l e R s m args below meth c H locs cells slots Q G) : W p l e R s m args below meth c H locs cells slots Q G := r k
/-- a table switch that comes to its default: outside, or at a hole -/
theorem tb_any {rest : List Value} {dflt lo hi : Int} {offs : Array Int} {len : Nat} {x : Int32} {tgt : Nat} (hx : p.tables.exec = Jvm.exec) (hb : c.code = cc) (hdg : decode cc pc = .ok (.tableswitch dflt lo hi offs, len)) (h : (x.toInt < lo ∨ hi < x.toInt) ∨ (¬ x.toInt < lo ∧ ¬ hi < x.toInt ∧ offs[(x.toInt - lo).toNat]? = some dflt)) (ht : (pc : Int) + dflt = (tgt : Int))
    (k : W p l e R s m args below meth c H locs cells slots Q (F0 m tgt ls rest)) : W p l e R s m args below meth c H locs cells slots Q (F0 m pc ls (.int x :: rest)) := by
  rcases h with h | ⟨h1, h2, h3⟩
  · exact lv_tableOut hx hb hdg h ht k
  · exact lv_tableIn hx hb hdg h1 h2 h3 ht k
/-! Calls -/
/-- the callee's cells among the caller's -/
def Su (w wc : va_W) : Prop := ∃ isC : List Nat, va_nd isC = true ∧ isC.map (fun i => w[i]?) = wc.map some
/-- the callee's cells among the caller's, and the caller's world behind the call -/
def Sp (w wc : va_W) {S : Type} (w1 wo : S → va_W) : Prop := ∃ (isC isR : List Nat) (wr : va_W), va_nd isC = true ∧ isC.map (fun i => w[i]?) = wc.map some ∧ isR.map (fun i => w[i]?) = wr.map some ∧ va_nd isR = true ∧ (∀ i ∈ isR, i ∉ isC) ∧ ∃ pm : List Nat, va_nd pm = true ∧ ∀ u : S, pm.map (fun i => (wr ++ w1 u)[i]?) = (wo u).map some
variable {y : MethodName} {ws : List Cond} {rm : Room} {bytes : ByteArray} {maxL n index : Nat} {ret : Option FieldType} {Cn : String} {b : Nat} {As rest st0 : List Value} {w wc : va_W}
set_option maxHeartbeats 4000000 in
theorem kv_p {v : Int32} {D' : Nat → Prop} (C : cx_C p c cc nL s m args Ts own D tys A) (hM : Ct_p l y ws rm D tys (.ref b :: As) wc v) (cw : CallW R s args own Cn index y bytes maxL ret ws rm 0 0 n) {q : vw_C} {fs : List Value} {ci q0 : Nat} (hc : vwCl[ci]? = some q) (hq : q.1 = Cn) (he : wc[q0]? = some (b, .inr (ci, fs)))
    (hP : va_P D vwCl w H) (hD : va_D D' w) (hS : va_S A s.heap H locs) (su : Su w wc) (hn : As.length = n) (hsize : ls.size = nL) (hst : st0 = As.reverse ++ .ref b :: rest) (hW : (rest.map fun v => v.category).sum ≤ 8) (hdg : decode cc pc = .ok (.invokevirtual index, 3)) (hcs : cells ≤ R.cells ∧ slots ≤ R.slots)
    (kk : ∀ (H1 : Heap) (locs1 : List Loc), va_P D vwCl w H1 → va_S A s.heap H1 locs1 → W p l e R s m args below meth c H1 locs1 cells slots Q (F0 m (pc + 3) ls (.int v :: rest))) : W p l e R s m args below meth c H locs cells slots Q (F0 m pc ls st0) := by
  obtain ⟨isC, hnC, hC⟩ := su
  have hPc := hP.sub (ws' := wc) isC (fm_of hC)
  have hDc := hD.sub isC hnC hC
  have hK := C.2.2.2.2.2.1
  have hFc : ∀ q, va_A ([] : va_W) H.size q → A q := fun q h => by
    rcases h with ⟨k, e, h⟩ | h
    · simp at h
    · exact C.2.2.2.2.2.2.1 q (Nat.le_trans hS.1 h)
  refine va_calli (va_runV (As := As) (rest := rest) ⟨C.1, C.2.1, C.2.2.1, C.2.2.2.1, C.2.2.2.2.1⟩ (hM H.size) cw ⟨fun a U g mk q => by obtain ⟨q0, q1, qP, qK, qD, qN⟩ := q; exact ⟨q0, q1, qP, va_K.moved (u := U) (U := U.calling g mk a) (Vm.Alike.refl U.vm) qK, qD, va_tabs (u := U) (U := U.calling g mk a) rfl rfl qN⟩, hq ▸ va_recv hK hPc hc he, fun U hU hW => ⟨rfl, by rw [hU], by rw [hU]; exact hPc, va_K.moved hW.alike hK, hDc.weaken (fun _ _ _ _ => trivial), va_Nw.warmM hW C.2.2.2.2.2.2.2⟩⟩ rfl hn hsize hst (lv_room hW) hdg hcs) hS (fun q _ h => hFc q h) hFc (fun r u t H1 locs1 ht hvm hw hB hz1 hk1 hS1 => ?_)
  subst hw
  exact kk H1 locs1 (hP.kept (fun k q hk => hk1 q.1 ((hP k q hk).lt) (fun h => by
    rcases h with ⟨k', e', h'⟩ | h'
    · simp at h'
    · exact absurd ((hP k q hk).lt) (Nat.not_lt.mpr h')))) hS1
set_option maxHeartbeats 4000000 in
theorem ks_p {v : Int32} {D' : Nat → Prop} (C : cx_C p c cc nL s m args Ts own D tys A) (hM : Ct_p l y ws rm D tys As [] v) (cw : CallB R s args own index y bytes maxL ret ws rm 0 0 n ∧ (Cond.static y).before args s = true)
    (hP : va_P D vwCl w H) (hD : va_D D' w) (hS : va_S A s.heap H locs) (hn : As.length = n) (hsize : ls.size = nL) (hst : st0 = As.reverse ++ rest) (hW : (rest.map fun v => v.category).sum ≤ 8) (hdg : decode cc pc = .ok (.invokestatic index, 3)) (hcs : cells ≤ R.cells ∧ slots ≤ R.slots)
    (kk : ∀ (H1 : Heap) (locs1 : List Loc), va_P D vwCl w H1 → va_S A s.heap H1 locs1 → W p l e R s m args below meth c H1 locs1 cells slots Q (F0 m (pc + 3) ls (.int v :: rest))) : W p l e R s m args below meth c H locs cells slots Q (F0 m pc ls st0) := by
  have hK := C.2.2.2.2.2.1
  have hFc : ∀ q, va_A ([] : va_W) H.size q → A q := fun q h => by
    rcases h with ⟨k, e, h⟩ | h
    · simp at h
    · exact C.2.2.2.2.2.2.1 q (Nat.le_trans hS.1 h)
  refine va_calli (va_runS (As := As) (rest := rest) ⟨C.1, C.2.1, C.2.2.1, C.2.2.2.1, C.2.2.2.2.1⟩ (hM H.size) cw ⟨fun a U g mk q => by obtain ⟨q0, q1, qP, qK, qD, qN⟩ := q; exact ⟨q0, q1, qP, va_K.moved (u := U) (U := U.calling g mk a) (Vm.Alike.refl U.vm) qK, qD, va_tabs (u := U) (U := U.calling g mk a) rfl rfl qN⟩, fun U hU hW => ⟨rfl, by rw [hU], fun k q h => by simp at h, va_K.moved hW.alike hK, ⟨fun i j p q h => by simp at h, fun k q h => by simp at h⟩, va_Nw.warmM hW C.2.2.2.2.2.2.2⟩⟩ rfl hn hsize hst (lv_room hW) hdg hcs) hS (fun q _ h => hFc q h) hFc (fun r u t H1 locs1 ht hvm hw hB hz1 hk1 hS1 => ?_)
  subst hw
  exact kk H1 locs1 (hP.kept (fun k q hk => hk1 q.1 ((hP k q hk).lt) (fun h => by
    rcases h with ⟨k', e', h'⟩ | h'
    · simp at h'
    · exact absurd ((hP k q hk).lt) (Nat.not_lt.mpr h')))) hS1
set_option maxHeartbeats 4000000 in
theorem kv_i {S : Type} {w1 wo : S → va_W} {F : Int32 × S} (C : cx_C p c cc nL s m args Ts own D tys A) (hM : Ct_i l y ws rm D tys (.ref b :: As) wc w1 F) (cw : CallW R s args own Cn index y bytes maxL ret ws rm 0 0 n) {q : vw_C} {fs : List Value} {ci q0 : Nat} (hc : vwCl[ci]? = some q) (hq : q.1 = Cn) (he : wc[q0]? = some (b, .inr (ci, fs)))
    (hP : va_P D vwCl w H) (hD : va_D A w) (hS : va_S A s.heap H locs) (sp : Sp w wc w1 wo) (hn : As.length = n) (hsize : ls.size = nL) (hst : st0 = As.reverse ++ .ref b :: rest) (hW : (rest.map fun v => v.category).sum ≤ 8) (hdg : decode cc pc = .ok (.invokevirtual index, 3)) (hcs : cells ≤ R.cells ∧ slots ≤ R.slots)
    (kk : ∀ (H1 : Heap) (locs1 : List Loc), va_P D vwCl (wo F.2) H1 → va_D A (wo F.2) → va_S A s.heap H1 locs1 → W p l e R s m args below meth c H1 locs1 cells slots Q (F0 m (pc + 3) ls (.int F.1 :: rest))) : W p l e R s m args below meth c H locs cells slots Q (F0 m pc ls st0) := by
  obtain ⟨isC, isR, wr, hnC, hC, hR, hnR, hdis, pm, hnP, hpm⟩ := sp
  have hPc := hP.sub (ws' := wc) isC (fm_of hC)
  have hDc := hD.sub isC hnC hC
  have hK := C.2.2.2.2.2.1
  have hFc := va_free hD hS C.2.2.2.2.2.2.1 isC hC
  refine va_calli (va_runV (As := As) (rest := rest) ⟨C.1, C.2.1, C.2.2.1, C.2.2.2.1, C.2.2.2.2.1⟩ (hM H.size) cw ⟨fun a U g mk q => by obtain ⟨q0, q1, qP, qK, qD, qN⟩ := q; exact ⟨q0, q1, qP, va_K.moved (u := U) (U := U.calling g mk a) (Vm.Alike.refl U.vm) qK, qD, va_tabs (u := U) (U := U.calling g mk a) rfl rfl qN⟩, hq ▸ va_recv hK hPc hc he, fun U hU hW => ⟨rfl, by rw [hU], by rw [hU]; exact hPc, va_K.moved hW.alike hK, hDc.weaken (fun _ _ _ _ => trivial), va_Nw.warmM hW C.2.2.2.2.2.2.2⟩⟩ rfl hn hsize hst (lv_room hW) hdg hcs) hS (fun q _ h => hFc q h) hFc (fun r u t H1 locs1 ht hvm hw hB hz1 hk1 hS1 => ?_)
  obtain ⟨rfl, rfl⟩ := hw
  obtain ⟨hP1, hK1, hD1⟩ := hB
  rw [ht] at hP1
  obtain ⟨hP2, hD2⟩ := va_join (wr := wr) hP hD isC isR hC hR hnR hdis hk1 hFc hP1 hD1
  exact kk H1 locs1 (hP2.sub pm (fm_of (hpm F.2))) (hD2.sub pm hnP (hpm F.2)) hS1
set_option maxHeartbeats 4000000 in
theorem kv_v {S : Type} {w1 wo : S → va_W} {F : S} (C : cx_C p c cc nL s m args Ts own D tys A) (hM : Ct_v l y ws rm D tys (.ref b :: As) wc w1 F) (cw : CallW R s args own Cn index y bytes maxL ret ws rm 0 0 n) {q : vw_C} {fs : List Value} {ci q0 : Nat} (hc : vwCl[ci]? = some q) (hq : q.1 = Cn) (he : wc[q0]? = some (b, .inr (ci, fs)))
    (hP : va_P D vwCl w H) (hD : va_D A w) (hS : va_S A s.heap H locs) (sp : Sp w wc w1 wo) (hn : As.length = n) (hsize : ls.size = nL) (hst : st0 = As.reverse ++ .ref b :: rest) (hW : (rest.map fun v => v.category).sum ≤ 8) (hdg : decode cc pc = .ok (.invokevirtual index, 3)) (hcs : cells ≤ R.cells ∧ slots ≤ R.slots)
    (kk : ∀ (H1 : Heap) (locs1 : List Loc), va_P D vwCl (wo F) H1 → va_D A (wo F) → va_S A s.heap H1 locs1 → W p l e R s m args below meth c H1 locs1 cells slots Q (F0 m (pc + 3) ls rest)) : W p l e R s m args below meth c H locs cells slots Q (F0 m pc ls st0) := by
  obtain ⟨isC, isR, wr, hnC, hC, hR, hnR, hdis, pm, hnP, hpm⟩ := sp
  have hPc := hP.sub (ws' := wc) isC (fm_of hC)
  have hDc := hD.sub isC hnC hC
  have hK := C.2.2.2.2.2.1
  have hFc := va_free hD hS C.2.2.2.2.2.2.1 isC hC
  refine va_callv (va_runV (As := As) (rest := rest) ⟨C.1, C.2.1, C.2.2.1, C.2.2.2.1, C.2.2.2.2.1⟩ (hM H.size) cw ⟨fun a U g mk q => by obtain ⟨q0, q1, qP, qK, qD, qN⟩ := q; exact ⟨q0, q1, qP, va_K.moved (u := U) (U := U.calling g mk a) (Vm.Alike.refl U.vm) qK, qD, va_tabs (u := U) (U := U.calling g mk a) rfl rfl qN⟩, hq ▸ va_recv hK hPc hc he, fun U hU hW => ⟨rfl, by rw [hU], by rw [hU]; exact hPc, va_K.moved hW.alike hK, hDc.weaken (fun _ _ _ _ => trivial), va_Nw.warmM hW C.2.2.2.2.2.2.2⟩⟩ rfl hn hsize hst (lv_room hW) hdg hcs) hS (fun q _ h => hFc q h) hFc (fun u t H1 locs1 ht hvm hw hB hz1 hk1 hS1 => ?_)
  subst hw
  obtain ⟨hP1, hK1, hD1⟩ := hB
  rw [ht] at hP1
  obtain ⟨hP2, hD2⟩ := va_join (wr := wr) hP hD isC isR hC hR hnR hdis hk1 hFc hP1 hD1
  exact kk H1 locs1 (hP2.sub pm (fm_of (hpm u))) (hD2.sub pm hnP (hpm u)) hS1
end BRT
section BNM
variable {p : Program} {l : Launch} {e : Env} {R : Room} {s : State} {m : MethodId} {args : Array Value} {below : List Frame} {meth : Method} {c : Code} {H : Heap} {locs : List Loc} {cells slots : Nat} {Q : State → Prop}
variable {cc : ByteArray} {nL : Nat} {Ts : List Cond} {own host : String} {D : va_G} {tys : List (ClassId × FieldType)} {A : Nat → Prop} {pc : Nat} {ls : Array Slot} {y : MethodName} {ws : List Cond} {rm : Room} {bytes : ByteArray} {maxL n index : Nat} {ret : Option FieldType} {As rest st0 : List Value} {w : va_W}
set_option maxHeartbeats 4000000 in
/-- a nest mate's static method that writes nothing -/
theorem ks_pN {v : Int32} {D' : Nat → Prop} (C : cx_C p c cc nL s m args Ts own D tys A) (hM : Ct_p l y ws rm D tys As [] v) (cw : va_CN R s args own index y host bytes maxL ret ws rm 0 0 n) (hss : (Cond.static y).before args s = true)
    (hP : va_P D vwCl w H) (hD : va_D D' w) (hS : va_S A s.heap H locs) (hn : As.length = n) (hsize : ls.size = nL) (hst : st0 = As.reverse ++ rest) (hW : (rest.map fun v => v.category).sum ≤ 8) (hdg : decode cc pc = .ok (.invokestatic index, 3)) (hcs : cells ≤ R.cells ∧ slots ≤ R.slots)
    (kk : ∀ (H1 : Heap) (locs1 : List Loc), va_P D vwCl w H1 → va_S A s.heap H1 locs1 → W p l e R s m args below meth c H1 locs1 cells slots Q (F0 m (pc + 3) ls (.int v :: rest))) : W p l e R s m args below meth c H locs cells slots Q (F0 m pc ls st0) := by
  have hK := C.2.2.2.2.2.1
  have hFc : ∀ q, va_A ([] : va_W) H.size q → A q := fun q h => by
    rcases h with ⟨k, e, h⟩ | h
    · simp at h
    · exact C.2.2.2.2.2.2.1 q (Nat.le_trans hS.1 h)
  refine va_calli (va_runSN (As := As) (rest := rest) ⟨C.1, C.2.1, C.2.2.1, C.2.2.2.1, C.2.2.2.2.1⟩ (hM H.size) ⟨cw, hss, trivial⟩ ⟨fun a U g mk q => by obtain ⟨q0, q1, qP, qK, qD, qN⟩ := q; exact ⟨q0, q1, qP, va_K.moved (u := U) (U := U.calling g mk a) (Vm.Alike.refl U.vm) qK, qD, va_tabs (u := U) (U := U.calling g mk a) rfl rfl qN⟩, fun U hU hW => ⟨rfl, by rw [hU], fun k q h => by simp at h, va_K.moved hW.alike hK, ⟨fun i j p q h => by simp at h, fun k q h => by simp at h⟩, va_Nw.warmM hW C.2.2.2.2.2.2.2⟩⟩ rfl hn hsize hst (lv_room hW) hdg hcs) hS (fun q _ h => hFc q h) hFc (fun r u t H1 locs1 ht hvm hw hB hz1 hk1 hS1 => ?_)
  subst hw
  exact kk H1 locs1 (hP.kept (fun k q hk => hk1 q.1 ((hP k q hk).lt) (fun h => by
    rcases h with ⟨k', e', h'⟩ | h'
    · simp at h'
    · exact absurd ((hP k q hk).lt) (Nat.not_lt.mpr h')))) hS1
end BNM
/-! Numbers -/
theorem lt_t {a b : Int32} (h : a < b) : a.toInt < b.toInt := Int32.lt_iff_toInt_lt.mp h
theorem le_t {a b : Int32} (h : a ≤ b) : a.toInt ≤ b.toInt := Int32.le_iff_toInt_le.mp h
theorem nlt_t {a b : Int32} (h : ¬ a < b) : b.toInt ≤ a.toInt := by
  rw [Int32.lt_iff_toInt_lt] at h; omega
theorem nle_t {a b : Int32} (h : ¬ a ≤ b) : b.toInt < a.toInt := by
  rw [Int32.le_iff_toInt_le] at h; omega
theorem lt_k {x k : Int32} {n : Int} (h : x < k) (hk : k.toInt = n) : x.toInt < n := hk ▸ lt_t h
theorem nlt_k {x k : Int32} {n : Int} (h : ¬ x < k) (hk : k.toInt = n) : n ≤ x.toInt := hk ▸ nlt_t h
theorem nle_k {x k : Int32} {n : Int} (h : ¬ k ≤ x) (hk : k.toInt = n) : x.toInt < n := hk ▸ nle_t h
theorem le_k {x k : Int32} {n : Int} (h : k ≤ x) (hk : k.toInt = n) : n ≤ x.toInt := hk ▸ le_t h
theorem lek_ {x k : Int32} {n : Int} (h : x ≤ k) (hk : k.toInt = n) : x.toInt ≤ n := hk ▸ le_t h
theorem nlek_ {x k : Int32} {n : Int} (h : ¬ x ≤ k) (hk : k.toInt = n) : n < x.toInt := hk ▸ nle_t h
theorem z_t : (0 : Int32).toInt = 0 := by decide
theorem o_t : (1 : Int32).toInt = 1 := by decide
theorem inc_t {x y : Int32} (h : x < y) : (x + 1).toInt = x.toInt + 1 := by
  have h1 := lt_t h
  have h2 := Int32.toInt_lt y
  have h3 := Int32.le_toInt x
  rw [Jvm.Kit.i32_add (by rw [o_t]; omega) (by rw [o_t]; omega), o_t]
theorem inc_b {x : Int32} {n : Int} (h : x.toInt < n) (hn : n ≤ 2147483647) : (x + 1).toInt = x.toInt + 1 := by
  have h3 := Int32.le_toInt x
  rw [Jvm.Kit.i32_add (by rw [o_t]; omega) (by rw [o_t]; omega), o_t]
theorem dec_t {x : Int32} (h : 0 ≤ x.toInt) : (x + (-1)).toInt = x.toInt - 1 := by
  have h2 := Int32.toInt_lt x
  have e : (-1 : Int32).toInt = -1 := by decide
  rw [Jvm.Kit.i32_add (by rw [e]; omega) (by rw [e]; omega), e]
  omega
theorem sub1_t {x : Int32} (h : 0 ≤ x.toInt) : (x - 1).toInt = x.toInt - 1 := by
  have h2 := Int32.toInt_lt x
  rw [Jvm.Kit.i32_sub (by rw [o_t]; omega) (by rw [o_t]; omega), o_t]
theorem ix_c {i : Int32} {n : Nat} (h0 : 0 ≤ i.toInt) (h1 : i.toInt < n) : vp_in i n := vp_in_iff.mpr ⟨h0, h1⟩
theorem oN_t {N : Nat} (h : N < 2147483648) : (Int32.ofNat N).toInt = N := nI_toInt h
theorem mn_le {x y : Int32} : (if y < x then y else x).toInt ≤ y.toInt := by
  split
  · exact Int.le_refl _
  · rename_i h; exact nlt_t h
theorem mx_ge {x y : Int32} : x.toInt ≤ (if x < y then y else x).toInt := by
  split
  · rename_i h; exact Int.le_of_lt (lt_t h)
  · exact Int.le_refl _
