def zz_tbl : List Cond := lw_tbl.filter goodWord
theorem zz_mem {w : Cond} (h : w ∈ lw_tbl) (g : goodWord w = true) : w ∈ zz_tbl := List.mem_filter.mpr ⟨h, g⟩
theorem zz_good : GoodIn zz_tbl zz_tbl := fun w h => ⟨h, good_of_word (List.mem_filter.mp h).2⟩
theorem zz_gw {w : Cond} (h : w ∈ zz_tbl) : w ∈ zz_tbl ∧ ((w.onTables && w.keeps) = true ∨ ∃ ty, w = .arrayClass ty) := ⟨h, good_of_word (List.mem_filter.mp h).2⟩
theorem zz_gV {own C : String} {idx : Nat} {y : MethodName} {b : ByteArray} {n : Nat} {ret : Option FieldType} (h1 : Cond.methodLink own idx y ∈ zz_tbl) (h2 : Cond.instanceMethod y ∈ zz_tbl) (h3 : Cond.selects C y y ∈ zz_tbl) (h4 : Cond.initialized C ∈ zz_tbl) (h5 : Cond.code y b n ret ∈ zz_tbl) : GoodIn zz_tbl (wsV own idx C y (.code y b n ret :: zz_tbl)) := by
  intro w hw
  refine zz_gw ?_
  rcases List.mem_append.mp hw with h | h
  · simp only [List.mem_cons, List.not_mem_nil, or_false] at h
    rcases h with rfl | rfl | rfl | rfl <;> assumption
  · rcases List.mem_cons.mp h with rfl | h
    · exact h5
    · exact h
theorem zz_gS {own : String} {idx : Nat} {y : MethodName} {b : ByteArray} {n : Nat} {ret : Option FieldType} (h1 : Cond.methodLink own idx y ∈ zz_tbl) (h2 : Cond.static y ∈ zz_tbl) (h4 : Cond.initialized y.cls ∈ zz_tbl) (h5 : Cond.code y b n ret ∈ zz_tbl) : GoodIn zz_tbl (va_wsS own idx y (.code y b n ret :: zz_tbl)) := by
  intro w hw
  refine zz_gw ?_
  rcases List.mem_append.mp hw with h | h
  · simp only [List.mem_cons, List.not_mem_nil, or_false] at h
    rcases h with rfl | rfl | rfl <;> assumption
  · rcases List.mem_cons.mp h with rfl | h
    · exact h5
    · exact h
abbrev zz_St : Type := (Nat → Int32) × (Nat → Int64) × (Nat → Nat → Int32) × (Nat → Nat → Int64)
def sg_i (u : zz_St) (k : Nat) : Int32 := u.1 k
def sg_l (u : zz_St) (k : Nat) : Int64 := u.2.1 k
def sg_a (u : zz_St) (k : Nat) : Nat → Int32 := u.2.2.1 k
def sg_b (u : zz_St) (k : Nat) : Nat → Int64 := u.2.2.2 k
def ss_i (u : zz_St) (k : Nat) (x : Int32) : zz_St := (fun j => if j = k then x else u.1 j, u.2)
def ss_l (u : zz_St) (k : Nat) (x : Int64) : zz_St := (u.1, fun j => if j = k then x else u.2.1 j, u.2.2)
def ss_a (u : zz_St) (k : Nat) (f : Nat → Int32) : zz_St := (u.1, u.2.1, fun j => if j = k then f else u.2.2.1 j, u.2.2.2)
def ss_b (u : zz_St) (k : Nat) (f : Nat → Int64) : zz_St := (u.1, u.2.1, u.2.2.1, fun j => if j = k then f else u.2.2.2 j)
theorem sx_il (u : zz_St) (j : Nat) (x : Int64) (k : Nat) : sg_i (ss_l u j x) k = sg_i u k := rfl
theorem sx_ia (u : zz_St) (j : Nat) (x : Nat → Int32) (k : Nat) : sg_i (ss_a u j x) k = sg_i u k := rfl
theorem sx_ib (u : zz_St) (j : Nat) (x : Nat → Int64) (k : Nat) : sg_i (ss_b u j x) k = sg_i u k := rfl
theorem sy_i (u : zz_St) {j k : Nat} (x : Int32) (h : k ≠ j) : sg_i (ss_i u j x) k = sg_i u k := if_neg h
theorem sz_i (u : zz_St) (k : Nat) (x : Int32) : sg_i (ss_i u k x) k = x := if_pos rfl
theorem sx_li (u : zz_St) (j : Nat) (x : Int32) (k : Nat) : sg_l (ss_i u j x) k = sg_l u k := rfl
theorem sx_la (u : zz_St) (j : Nat) (x : Nat → Int32) (k : Nat) : sg_l (ss_a u j x) k = sg_l u k := rfl
theorem sx_lb (u : zz_St) (j : Nat) (x : Nat → Int64) (k : Nat) : sg_l (ss_b u j x) k = sg_l u k := rfl
theorem sy_l (u : zz_St) {j k : Nat} (x : Int64) (h : k ≠ j) : sg_l (ss_l u j x) k = sg_l u k := if_neg h
theorem sz_l (u : zz_St) (k : Nat) (x : Int64) : sg_l (ss_l u k x) k = x := if_pos rfl
theorem sx_ai (u : zz_St) (j : Nat) (x : Int32) (k : Nat) : sg_a (ss_i u j x) k = sg_a u k := rfl
theorem sx_al (u : zz_St) (j : Nat) (x : Int64) (k : Nat) : sg_a (ss_l u j x) k = sg_a u k := rfl
theorem sx_ab (u : zz_St) (j : Nat) (x : Nat → Int64) (k : Nat) : sg_a (ss_b u j x) k = sg_a u k := rfl
theorem sy_a (u : zz_St) {j k : Nat} (x : Nat → Int32) (h : k ≠ j) : sg_a (ss_a u j x) k = sg_a u k := if_neg h
theorem sz_a (u : zz_St) (k : Nat) (x : Nat → Int32) : sg_a (ss_a u k x) k = x := if_pos rfl
theorem sx_bi (u : zz_St) (j : Nat) (x : Int32) (k : Nat) : sg_b (ss_i u j x) k = sg_b u k := rfl
theorem sx_bl (u : zz_St) (j : Nat) (x : Int64) (k : Nat) : sg_b (ss_l u j x) k = sg_b u k := rfl
theorem sx_ba (u : zz_St) (j : Nat) (x : Nat → Int32) (k : Nat) : sg_b (ss_a u j x) k = sg_b u k := rfl
theorem sy_b (u : zz_St) {j k : Nat} (x : Nat → Int64) (h : k ≠ j) : sg_b (ss_b u j x) k = sg_b u k := if_neg h
theorem sz_b (u : zz_St) (k : Nat) (x : Nat → Int64) : sg_b (ss_b u k x) k = x := if_pos rfl
def zz_Cx (p : Program) (s : State) (m : MethodId) (args : Array Value) (meth : Method) (c : Code) (own : String) (cc : ByteArray) (nL : Nat) (ret : Option FieldType) (D : va_G) (cl : List vw_C) (tys : List (ClassId × FieldType)) (A : Nat → Prop) : Prop :=
  p.tables.exec = Jvm.exec ∧ c.code = cc ∧ meth.sig.returnType = ret ∧ c.maxLocals = nL ∧ s.vm.findClass own = some m.cls ∧ (∀ w ∈ zz_tbl, w.before args s = true) ∧ meth.locks = false ∧ va_K D cl tys s ∧ (∀ q : Nat, s.heap.size ≤ q → A q)
def zz_Wd (D : va_G) (cl : List vw_C) (A : Nat → Prop) (H0 H : Heap) (locs : List Loc) (ws : va_W) : Prop := va_P D cl ws H ∧ va_D A ws ∧ va_S A H0 H locs
def zz_B (D : va_G) (cl : List vw_C) (tys : List (ClassId × FieldType)) (wf : zz_St → va_W) (A : Nat → Prop) (u : zz_St) (t : State) : Prop := va_P D cl (wf u) t.heap ∧ va_K D cl tys t ∧ va_D A (wf u)
def zz_Pc (D : va_G) (cl : List vw_C) (tys : List (ClassId × FieldType)) (As : List Value) (sz : Nat) (ws : va_W) : Array Value → State → Prop := va_Pc As (fun U => U.heap.size = sz ∧ va_P D cl ws U.heap ∧ va_K D cl tys U ∧ va_D (fun _ => True) ws)
def zz_MI (l : Launch) (y : MethodName) (Ts : List Cond) (rm : Room) (D : va_G) (cl : List vw_C) (tys : List (ClassId × FieldType)) (wf : zz_St → va_W) (As : List Value) (u : zz_St) (post : Int32 → zz_St → Prop) : Prop :=
  ∀ sz : Nat, Met l y Ts rm (zz_Pc D cl tys As sz (wf u)) (va_Qi post (zz_B D cl tys wf (va_A (wf u) sz)) (va_A (wf u) sz)) 0 0 (va_A (wf u) sz)
def zz_ML (l : Launch) (y : MethodName) (Ts : List Cond) (rm : Room) (D : va_G) (cl : List vw_C) (tys : List (ClassId × FieldType)) (wf : zz_St → va_W) (As : List Value) (u : zz_St) (post : Int64 → zz_St → Prop) : Prop :=
  ∀ sz : Nat, Met l y Ts rm (zz_Pc D cl tys As sz (wf u)) (va_Ql post (zz_B D cl tys wf (va_A (wf u) sz)) (va_A (wf u) sz)) 0 0 (va_A (wf u) sz)
def zz_MV (l : Launch) (y : MethodName) (Ts : List Cond) (rm : Room) (D : va_G) (cl : List vw_C) (tys : List (ClassId × FieldType)) (wf : zz_St → va_W) (As : List Value) (u : zz_St) (post : zz_St → Prop) : Prop :=
  ∀ sz : Nat, Met l y Ts rm (zz_Pc D cl tys As sz (wf u)) (va_Qv post (zz_B D cl tys wf (va_A (wf u) sz)) (va_A (wf u) sz)) 0 0 (va_A (wf u) sz)
theorem zz_blind {D : va_G} {cl : List vw_C} {tys : List (ClassId × FieldType)} {As : List Value} {sz : Nat} {ws : va_W} : FrameBlind (zz_Pc D cl tys As sz ws) := fun a U g mk q => by
  obtain ⟨q0, q1, qP, qK, qD⟩ := q
  exact ⟨q0, q1, qP, va_K.moved (u := U) (U := U.calling g mk a) (Vm.Alike.refl U.vm) qK, qD⟩
theorem zz_sub {D : va_G} {cl : List vw_C} {A : Nat → Prop} {H0 H : Heap} {locs : List Loc} {ws : va_W} (hw : zz_Wd D cl A H0 H locs ws) (hA : ∀ q : Nat, H0.size ≤ q → A q) : ∀ q, va_A ws H.size q → A q := by
  intro q h
  rcases h with ⟨k, e, h⟩ | h
  · exact hw.2.1.2 k (q, e) h
  · exact hA q (Nat.le_trans hw.2.2.1 h)
section ZB
variable {p : Program} {l : Launch} {e : Env} {R : Room} {s : State} {m : MethodId} {args : Array Value} {below : List Frame} {meth : Method} {c : Code} {H : Heap} {locs : List Loc} {cells slots : Nat} {Q : State → Prop}
variable {own : String} {cc : ByteArray} {nL pc : Nat} {ret : Option FieldType} {D : va_G} {cl : List vw_C} {tys : List (ClassId × FieldType)} {A : Nat → Prop} {ws : va_W} {wf : zz_St → va_W} {u : zz_St} {ls : Array Slot} {rest st0 : List Value} {a : Nat}
theorem zz_ofI {y : MethodName} {rm : Room} {As : List Value} {ret : FieldType} {post : Int32 → zz_St → Prop} (hy : plainName y.cls = true) (hlen : (lg_sl As).length ≤ nL)
    (body : ∀ (p : Program) (e : Env) (s : State) (m : MethodId) (below : List Frame) (meth : Method) (c : Code) (A : Nat → Prop), zz_Cx p s m As.toArray meth c y.cls cc nL (some ret) D cl tys A → zz_Wd D cl A s.heap s.heap [] (wf u) → ∀ ls : Array Slot, lv_has ls nL (lv_args 0 As) → W p l e rm s m As.toArray below meth c s.heap [] 0 0 (MQ below (va_Qi post (zz_B D cl tys wf A) A) As.toArray s 0 0 A) (F0 m 0 ls [])) :
    zz_MI l y (.code y cc nL (some ret) :: zz_tbl) rm D cl tys wf As u post := by
  intro sz
  refine Met.ofW (cc := cc) (maxL := nL) (ret := some ret) hy rfl ?_
  intro p e s m args below meth c s₁ B hml hv
  obtain ⟨rfl, hsz, hP, hK, hD0⟩ := hv
  have hts := atoms_spec (ws := .code y cc nL (some ret) :: zz_tbl) B.pre
  subst hsz
  have hD := hD0.self (sz := s.heap.size)
  generalize hAe : va_A (wf u) s.heap.size = A at hD ⊢
  have hA : ∀ q : Nat, s.heap.size ≤ q → A q := fun q h => by rw [← hAe]; exact Or.inr h
  have hl := lv_entry As (n := nL) hlen
  rw [lg_entry_eq]
  exact body p e s m below meth c A ⟨B.exec, B.bytes, B.returns, hml, findClass_of_methodNamed B.named, fun w h => hts w (List.mem_cons_of_mem _ h), B.notSynchronized, hK, hA⟩ ⟨hP, hD, va_S.rf⟩ _ hl
theorem zz_ofL {y : MethodName} {rm : Room} {As : List Value} {ret : FieldType} {post : Int64 → zz_St → Prop} (hy : plainName y.cls = true) (hlen : (lg_sl As).length ≤ nL)
    (body : ∀ (p : Program) (e : Env) (s : State) (m : MethodId) (below : List Frame) (meth : Method) (c : Code) (A : Nat → Prop), zz_Cx p s m As.toArray meth c y.cls cc nL (some ret) D cl tys A → zz_Wd D cl A s.heap s.heap [] (wf u) → ∀ ls : Array Slot, lv_has ls nL (lv_args 0 As) → W p l e rm s m As.toArray below meth c s.heap [] 0 0 (MQ below (va_Ql post (zz_B D cl tys wf A) A) As.toArray s 0 0 A) (F0 m 0 ls [])) :
    zz_ML l y (.code y cc nL (some ret) :: zz_tbl) rm D cl tys wf As u post := by
  intro sz
  refine Met.ofW (cc := cc) (maxL := nL) (ret := some ret) hy rfl ?_
  intro p e s m args below meth c s₁ B hml hv
  obtain ⟨rfl, hsz, hP, hK, hD0⟩ := hv
  have hts := atoms_spec (ws := .code y cc nL (some ret) :: zz_tbl) B.pre
  subst hsz
  have hD := hD0.self (sz := s.heap.size)
  generalize hAe : va_A (wf u) s.heap.size = A at hD ⊢
  have hA : ∀ q : Nat, s.heap.size ≤ q → A q := fun q h => by rw [← hAe]; exact Or.inr h
  have hl := lv_entry As (n := nL) hlen
  rw [lg_entry_eq]
  exact body p e s m below meth c A ⟨B.exec, B.bytes, B.returns, hml, findClass_of_methodNamed B.named, fun w h => hts w (List.mem_cons_of_mem _ h), B.notSynchronized, hK, hA⟩ ⟨hP, hD, va_S.rf⟩ _ hl
theorem zz_ofV {y : MethodName} {rm : Room} {As : List Value} {post : zz_St → Prop} (hy : plainName y.cls = true) (hlen : (lg_sl As).length ≤ nL)
    (body : ∀ (p : Program) (e : Env) (s : State) (m : MethodId) (below : List Frame) (meth : Method) (c : Code) (A : Nat → Prop), zz_Cx p s m As.toArray meth c y.cls cc nL none D cl tys A → zz_Wd D cl A s.heap s.heap [] (wf u) → ∀ ls : Array Slot, lv_has ls nL (lv_args 0 As) → W p l e rm s m As.toArray below meth c s.heap [] 0 0 (MQ below (va_Qv post (zz_B D cl tys wf A) A) As.toArray s 0 0 A) (F0 m 0 ls [])) :
    zz_MV l y (.code y cc nL none :: zz_tbl) rm D cl tys wf As u post := by
  intro sz
  refine Met.ofW (cc := cc) (maxL := nL) (ret := none) hy rfl ?_
  intro p e s m args below meth c s₁ B hml hv
  obtain ⟨rfl, hsz, hP, hK, hD0⟩ := hv
  have hts := atoms_spec (ws := .code y cc nL none :: zz_tbl) B.pre
  subst hsz
  have hD := hD0.self (sz := s.heap.size)
  generalize hAe : va_A (wf u) s.heap.size = A at hD ⊢
  have hA : ∀ q : Nat, s.heap.size ≤ q → A q := fun q h => by rw [← hAe]; exact Or.inr h
  have hl := lv_entry As (n := nL) hlen
  rw [lg_entry_eq]
  exact body p e s m below meth c A ⟨B.exec, B.bytes, B.returns, hml, findClass_of_methodNamed B.named, fun w h => hts w (List.mem_cons_of_mem _ h), B.notSynchronized, hK, hA⟩ ⟨hP, hD, va_S.rf⟩ _ hl
theorem zz_reti {post : Int32 → zz_St → Prop} {v : Int32} (cx : zz_Cx p s m args meth c own cc nL (some .int) D cl tys A) (hw : zz_Wd D cl A s.heap H locs (wf u)) (hdg : decode cc pc = .ok (.ireturn, 1)) (h : post v u) : W p l e R s m args below meth c H locs 0 0 (MQ below (va_Qi post (zz_B D cl tys wf A) A) args s 0 0 A) (F0 m pc ls [.int v]) := by
  obtain ⟨hx, hb, hr, hml, hown, hts, hlocks, hK, hA⟩ := cx
  obtain ⟨hP, hD, hS⟩ := hw
  exact W.iret (v := v) hx hb hr (fun t ht hW => ⟨⟨v, u, rfl, h, by rw [ht]; exact hP, va_K.moved hW.alike hK, hD⟩, hS.F ht⟩) hS.2.2 hdg
theorem zz_bz {v : Int32} (h : v = 0 ∨ v = 1) : narrow .boolean (.int v) = .int v ∧ fits .boolean (.int v) = true := by
  rcases h with rfl | rfl <;> exact ⟨rfl, rfl⟩
theorem zz_retz {post : Int32 → zz_St → Prop} {v : Int32} (cx : zz_Cx p s m args meth c own cc nL (some .boolean) D cl tys A) (hw : zz_Wd D cl A s.heap H locs (wf u)) (hdg : decode cc pc = .ok (.ireturn, 1)) (hv : v = 0 ∨ v = 1) (h : post v u) : W p l e R s m args below meth c H locs 0 0 (MQ below (va_Qi post (zz_B D cl tys wf A) A) args s 0 0 A) (F0 m pc ls [.int v]) := by
  obtain ⟨hx, hb, hr, hml, hown, hts, hlocks, hK, hA⟩ := cx
  obtain ⟨hP, hD, hS⟩ := hw
  exact W.zret (v := v) hx hb hr (zz_bz hv).1 (fun t ht hW => ⟨⟨v, u, rfl, h, by rw [ht]; exact hP, va_K.moved hW.alike hK, hD⟩, hS.F ht⟩) hS.2.2 hdg
theorem zz_retl {post : Int64 → zz_St → Prop} {v : Int64} (cx : zz_Cx p s m args meth c own cc nL (some .long) D cl tys A) (hw : zz_Wd D cl A s.heap H locs (wf u)) (hdg : decode cc pc = .ok (.lreturn, 1)) (h : post v u) : W p l e R s m args below meth c H locs 0 0 (MQ below (va_Ql post (zz_B D cl tys wf A) A) args s 0 0 A) (F0 m pc ls [.long v]) := by
  obtain ⟨hx, hb, hr, hml, hown, hts, hlocks, hK, hA⟩ := cx
  obtain ⟨hP, hD, hS⟩ := hw
  exact W.lret (v := v) hx hb hr (fun t ht hW => ⟨⟨v, u, rfl, h, by rw [ht]; exact hP, va_K.moved hW.alike hK, hD⟩, hS.F ht⟩) hS.2.2 hdg
theorem zz_retv {post : zz_St → Prop} (cx : zz_Cx p s m args meth c own cc nL none D cl tys A) (hw : zz_Wd D cl A s.heap H locs (wf u)) (hdg : decode cc pc = .ok (.return_, 1)) (h : post u) : W p l e R s m args below meth c H locs 0 0 (MQ below (va_Qv post (zz_B D cl tys wf A) A) args s 0 0 A) (F0 m pc ls []) := by
  obtain ⟨hx, hb, hr, hml, hown, hts, hlocks, hK, hA⟩ := cx
  obtain ⟨hP, hD, hS⟩ := hw
  exact W.vret hx hb hr (fun t ht hW => ⟨⟨u, rfl, h, by rw [ht]; exact hP, va_K.moved hW.alike hK, hD⟩, hS.F ht⟩) hS.2.2 hdg
theorem zz_get (cx : zz_Cx p s m args meth c own cc nL ret D cl tys A) (hw : zz_Wd D cl A s.heap H locs ws) {C : String} {T : u_T} {N ci index : Nat} (hin : ∀ w ∈ u_ws C T N, w ∈ zz_tbl) (q0 : Nat) {fs : List Value} (he : ws[q0]? = some (a, .inr (ci, fs))) (hc : cl[ci]? = some (C, T, N)) (k : Nat) (hk : k < N) (hlink : Cond.fieldLink own index (T k).1 (T k).2.1 (T k).2.2.1 ∈ zz_tbl) {v v2 : Value} (hv : fs[k]? = some v) (hv2 : v = v2) (hdg : decode cc pc = .ok (.getfield index, 3))
    (kk : W p l e R s m args below meth c H locs cells slots Q (F0 m (pc + 3) ls (v2 :: rest))) : W p l e R s m args below meth c H locs cells slots Q (F0 m pc ls (.ref a :: rest)) := by
  obtain ⟨hx, hb, hr, hml, hown, hts, hlocks, hK, hA⟩ := cx
  subst hv2
  exact va_get hx hb hts hin hown hK hw.1 q0 he hc k hk (hts _ hlink) (fun _ h9 => h9) hv hdg kk
theorem zz_put (cx : zz_Cx p s m args meth c own cc nL ret D cl tys A) (hw : zz_Wd D cl A s.heap H locs ws) {C : String} {T : u_T} {N ci index : Nat} (hin : ∀ w ∈ u_ws C T N, w ∈ zz_tbl) (ty0 : Nat → FieldType) (hty : ∀ k, k < N → parseFieldDescriptor (T k).2.2.1 = some (ty0 k)) (hnm : ∀ a, a < N → ∀ b, b < N → a ≠ b → (T a).2.1 ≠ (T b).2.1) (q0 : Nat) {fs : List Value} (he : ws[q0]? = some (a, .inr (ci, fs))) (hc : cl[ci]? = some (C, T, N)) (k : Nat) (hk : k < N) (hlink : Cond.fieldLink own index (T k).1 (T k).2.1 (T k).2.2.1 ∈ zz_tbl) (hfin : (T k).2.2.2 = false) {v : Value} (hn : narrow (ty0 k) v = v ∧ fits (ty0 k) v = true) (hl : k < fs.length) {ws' : va_W} (hws : ws.set q0 (a, .inr (ci, fs.set k v)) = ws') (hdg : decode cc pc = .ok (.putfield index, 3))
    (kk : ∀ (H1 : Heap) (locs1 : List Loc), zz_Wd D cl A s.heap H1 locs1 ws' → W p l e R s m args below meth c H1 locs1 cells slots Q (F0 m (pc + 3) ls rest)) : W p l e R s m args below meth c H locs cells slots Q (F0 m pc ls (v :: .ref a :: rest)) := by
  obtain ⟨hx, hb, hr, hml, hown, hts, hlocks, hK, hA⟩ := cx
  obtain ⟨hP, hD, hS⟩ := hw
  subst hws
  exact va_put hx hb hts hin ty0 hty hnm hown hK hP hD hS q0 he hc k hk (hts _ hlink) (fun _ h9 => h9) hfin (hty k hk) hn.1 hn.2 hl hdg (fun H1 locs1 h1 h2 h3 => kk H1 locs1 ⟨h1, h2, h3⟩)
theorem zz_iald (cx : zz_Cx p s m args meth c own cc nL ret D cl tys A) (hw : zz_Wd D cl A s.heap H locs ws) (q0 t0 : Nat) {cA : ClassId} {n : Nat} {f f2 : Nat → Int32} (ha : ws[q0]? = some (a, .inl (cA, n, .inl f))) (ht : tys[t0]? = some (cA, .int)) {i : Int32} (hin : vp_in i n) (hf : f = f2) (hdg : decode cc pc = .ok (.iaload, 1))
    (kk : W p l e R s m args below meth c H locs cells slots Q (F0 m (pc + 1) ls (.int (f2 i.toNatClampNeg) :: rest))) : W p l e R s m args below meth c H locs cells slots Q (F0 m pc ls (.int i :: .ref a :: rest)) := by
  obtain ⟨hx, hb, hr, hml, hown, hts, hlocks, hK, hA⟩ := cx
  subst hf
  exact va_iald hx hb hK hw.1 q0 t0 ha ht hin hdg kk
theorem zz_zald (cx : zz_Cx p s m args meth c own cc nL ret D cl tys A) (hw : zz_Wd D cl A s.heap H locs ws) (q0 t0 : Nat) {cA : ClassId} {n : Nat} {f f2 : Nat → Int32} (ha : ws[q0]? = some (a, .inl (cA, n, .inl f))) (ht : tys[t0]? = some (cA, .boolean)) {i : Int32} (hin : vp_in i n) (hf : f = f2) (hdg : decode cc pc = .ok (.baload, 1))
    (kk : W p l e R s m args below meth c H locs cells slots Q (F0 m (pc + 1) ls (.int (f2 i.toNatClampNeg) :: rest))) : W p l e R s m args below meth c H locs cells slots Q (F0 m pc ls (.int i :: .ref a :: rest)) := by
  obtain ⟨hx, hb, hr, hml, hown, hts, hlocks, hK, hA⟩ := cx
  subst hf
  exact va_zald hx hb hK hw.1 q0 t0 ha ht hin hdg kk
theorem zz_lald (cx : zz_Cx p s m args meth c own cc nL ret D cl tys A) (hw : zz_Wd D cl A s.heap H locs ws) (q0 t0 : Nat) {cA : ClassId} {n : Nat} {f f2 : Nat → Int64} (ha : ws[q0]? = some (a, .inl (cA, n, .inr (.inl f)))) (ht : tys[t0]? = some (cA, .long)) {i : Int32} (hin : vp_in i n) (hf : f = f2) (hdg : decode cc pc = .ok (.laload, 1))
    (kk : W p l e R s m args below meth c H locs cells slots Q (F0 m (pc + 1) ls (.long (f2 i.toNatClampNeg) :: rest))) : W p l e R s m args below meth c H locs cells slots Q (F0 m pc ls (.int i :: .ref a :: rest)) := by
  obtain ⟨hx, hb, hr, hml, hown, hts, hlocks, hK, hA⟩ := cx
  subst hf
  exact va_lald hx hb hK hw.1 q0 t0 ha ht hin hdg kk
theorem zz_iast (cx : zz_Cx p s m args meth c own cc nL ret D cl tys A) (hw : zz_Wd D cl A s.heap H locs ws) (q0 t0 : Nat) {cA : ClassId} {n : Nat} {f f2 : Nat → Int32} (ha : ws[q0]? = some (a, .inl (cA, n, .inl f))) (ht : tys[t0]? = some (cA, .int)) {i x : Int32} (hin : vp_in i n) (hf : f = f2) {ws' : va_W} (hws : ws.set q0 (a, .inl (cA, n, .inl (upd f2 i.toNatClampNeg x))) = ws') (hdg : decode cc pc = .ok (.iastore, 1))
    (kk : ∀ (H1 : Heap) (locs1 : List Loc), zz_Wd D cl A s.heap H1 locs1 ws' → W p l e R s m args below meth c H1 locs1 cells slots Q (F0 m (pc + 1) ls rest)) : W p l e R s m args below meth c H locs cells slots Q (F0 m pc ls (.int x :: .int i :: .ref a :: rest)) := by
  obtain ⟨hx, hb, hr, hml, hown, hts, hlocks, hK, hA⟩ := cx
  obtain ⟨hP, hD, hS⟩ := hw
  subst hf
  subst hws
  exact va_iast hx hb hK hP hD hS q0 t0 ha ht hin hdg (fun H1 locs1 h1 h2 h3 => kk H1 locs1 ⟨h1, h2, h3⟩)
theorem zz_zast (cx : zz_Cx p s m args meth c own cc nL ret D cl tys A) (hw : zz_Wd D cl A s.heap H locs ws) (q0 t0 : Nat) {cA : ClassId} {n : Nat} {f f2 : Nat → Int32} (ha : ws[q0]? = some (a, .inl (cA, n, .inl f))) (ht : tys[t0]? = some (cA, .boolean)) {i x : Int32} (hin : vp_in i n) (hx0 : x = 0 ∨ x = 1) (hf : f = f2) {ws' : va_W} (hws : ws.set q0 (a, .inl (cA, n, .inl (upd f2 i.toNatClampNeg x))) = ws') (hdg : decode cc pc = .ok (.bastore, 1))
    (kk : ∀ (H1 : Heap) (locs1 : List Loc), zz_Wd D cl A s.heap H1 locs1 ws' → W p l e R s m args below meth c H1 locs1 cells slots Q (F0 m (pc + 1) ls rest)) : W p l e R s m args below meth c H locs cells slots Q (F0 m pc ls (.int x :: .int i :: .ref a :: rest)) := by
  obtain ⟨hx, hb, hr, hml, hown, hts, hlocks, hK, hA⟩ := cx
  obtain ⟨hP, hD, hS⟩ := hw
  subst hf
  subst hws
  have hnar : vp_nar .boolean x = x := by rcases hx0 with rfl | rfl <;> rfl
  exact va_zast hx hb hK hP hD hS q0 t0 ha ht hin hdg (fun H1 locs1 h1 h2 h3 => by rw [hnar] at h1 h2; exact kk H1 locs1 ⟨h1, h2, h3⟩)
theorem zz_last (cx : zz_Cx p s m args meth c own cc nL ret D cl tys A) (hw : zz_Wd D cl A s.heap H locs ws) (q0 t0 : Nat) {cA : ClassId} {n : Nat} {f f2 : Nat → Int64} (ha : ws[q0]? = some (a, .inl (cA, n, .inr (.inl f)))) (ht : tys[t0]? = some (cA, .long)) {i : Int32} {x : Int64} (hin : vp_in i n) (hf : f = f2) {ws' : va_W} (hws : ws.set q0 (a, .inl (cA, n, .inr (.inl (vp_updL f2 i.toNatClampNeg x)))) = ws') (hdg : decode cc pc = .ok (.lastore, 1))
    (kk : ∀ (H1 : Heap) (locs1 : List Loc), zz_Wd D cl A s.heap H1 locs1 ws' → W p l e R s m args below meth c H1 locs1 cells slots Q (F0 m (pc + 1) ls rest)) : W p l e R s m args below meth c H locs cells slots Q (F0 m pc ls (.long x :: .int i :: .ref a :: rest)) := by
  obtain ⟨hx, hb, hr, hml, hown, hts, hlocks, hK, hA⟩ := cx
  obtain ⟨hP, hD, hS⟩ := hw
  subst hf
  subst hws
  exact va_last hx hb hK hP hD hS q0 t0 ha ht hin hdg (fun H1 locs1 h1 h2 h3 => kk H1 locs1 ⟨h1, h2, h3⟩)
theorem zz_copyi (cx : zz_Cx p s m args meth c own cc nL ret D cl tys A) (hw : zz_Wd D cl A s.heap H locs ws) {index : Nat} (hls : ls.size = nL) (hlink : Cond.methodLink own index arraycopyName ∈ zz_tbl) (hnat : Cond.native arraycopyName ∈ zz_tbl) (hstat : Cond.static arraycopyName ∈ zz_tbl) (hini : Cond.initialized "java/lang/System" ∈ zz_tbl) (q0 q1 t0 : Nat) {a0 : Nat} {c0 : ClassId} {n0 n1 : Nat} {f g f2 g2 : Nat → Int32} {ty : FieldType} (ha0 : ws[q0]? = some (a0, .inl (c0, n0, .inl f))) (ha1 : ws[q1]? = some (a, .inl (c0, n1, .inl g))) (ht0 : tys[t0]? = some (c0, ty)) (hprim : refKind ty = false) (hft : ∀ z : Int32, fits ty (.int z) = true) (hf : f = f2) (hg : g = g2)
    {sp dp n : Int32} (h1 : ¬ sp < 0) (h2 : ¬ dp < 0) (h3 : ¬ n < 0) (h4 : sp.toNatClampNeg + n.toNatClampNeg ≤ n0) (h5 : dp.toNatClampNeg + n.toNatClampNeg ≤ n1) (hframes : 1 ≤ R.frames) (hlocals : (rest.map fun v => v.category).sum + (nativeFrameWords "java/lang/System" "arraycopy" 5 + 11) ≤ R.locals) {ws' : va_W} (hws : ws.set q1 (a, .inl (c0, n1, .inl (va_cpy f2 g2 sp.toNatClampNeg dp.toNatClampNeg n.toNatClampNeg))) = ws') (hdg : decode cc pc = .ok (.invokestatic index, 3))
    (kk : ∀ (H1 : Heap) (locs1 : List Loc), zz_Wd D cl A s.heap H1 locs1 ws' → W p l e R s m args below meth c H1 locs1 cells slots Q (F0 m (pc + 3) ls rest)) : W p l e R s m args below meth c H locs cells slots Q (F0 m pc ls (.int n :: .int dp :: .ref a :: .int sp :: .ref a0 :: rest)) := by
  obtain ⟨hx, hb, hr, hml, hown, hts, hlocks, hK, hA⟩ := cx
  obtain ⟨hP, hD, hS⟩ := hw
  subst hf; subst hg; subst hws
  exact va_copyi hx hb (hml.trans hls.symm) hown (hts _ hlink) (hts _ hnat) (hts _ hstat) (hts _ hini) hK hP hD hS q0 q1 t0 t0 ha0 ha1 ht0 ht0 hprim h1 h2 h3 h4 h5 (fun _ _ => hft _) hframes hlocals hdg (fun H1 locs1 h1 h2 h3 => kk H1 locs1 ⟨h1, h2, h3⟩)
theorem zz_copyl (cx : zz_Cx p s m args meth c own cc nL ret D cl tys A) (hw : zz_Wd D cl A s.heap H locs ws) {index : Nat} (hls : ls.size = nL) (hlink : Cond.methodLink own index arraycopyName ∈ zz_tbl) (hnat : Cond.native arraycopyName ∈ zz_tbl) (hstat : Cond.static arraycopyName ∈ zz_tbl) (hini : Cond.initialized "java/lang/System" ∈ zz_tbl) (q0 q1 t0 : Nat) {a0 : Nat} {c0 : ClassId} {n0 n1 : Nat} {f g f2 g2 : Nat → Int64} {ty : FieldType} (ha0 : ws[q0]? = some (a0, .inl (c0, n0, .inr (.inl f)))) (ha1 : ws[q1]? = some (a, .inl (c0, n1, .inr (.inl g)))) (ht0 : tys[t0]? = some (c0, ty)) (hprim : refKind ty = false) (hft : ∀ z : Int64, fits ty (.long z) = true) (hf : f = f2) (hg : g = g2)
    {sp dp n : Int32} (h1 : ¬ sp < 0) (h2 : ¬ dp < 0) (h3 : ¬ n < 0) (h4 : sp.toNatClampNeg + n.toNatClampNeg ≤ n0) (h5 : dp.toNatClampNeg + n.toNatClampNeg ≤ n1) (hframes : 1 ≤ R.frames) (hlocals : (rest.map fun v => v.category).sum + (nativeFrameWords "java/lang/System" "arraycopy" 5 + 11) ≤ R.locals) {ws' : va_W} (hws : ws.set q1 (a, .inl (c0, n1, .inr (.inl (va_cpy f2 g2 sp.toNatClampNeg dp.toNatClampNeg n.toNatClampNeg)))) = ws') (hdg : decode cc pc = .ok (.invokestatic index, 3))
    (kk : ∀ (H1 : Heap) (locs1 : List Loc), zz_Wd D cl A s.heap H1 locs1 ws' → W p l e R s m args below meth c H1 locs1 cells slots Q (F0 m (pc + 3) ls rest)) : W p l e R s m args below meth c H locs cells slots Q (F0 m pc ls (.int n :: .int dp :: .ref a :: .int sp :: .ref a0 :: rest)) := by
  obtain ⟨hx, hb, hr, hml, hown, hts, hlocks, hK, hA⟩ := cx
  obtain ⟨hP, hD, hS⟩ := hw
  subst hf; subst hg; subst hws
  exact va_copyl hx hb (hml.trans hls.symm) hown (hts _ hlink) (hts _ hnat) (hts _ hstat) (hts _ hini) hK hP hD hS q0 q1 t0 t0 ha0 ha1 ht0 ht0 hprim h1 h2 h3 h4 h5 (fun _ _ => hft _) hframes hlocals hdg (fun H1 locs1 h1 h2 h3 => kk H1 locs1 ⟨h1, h2, h3⟩)
end ZB
