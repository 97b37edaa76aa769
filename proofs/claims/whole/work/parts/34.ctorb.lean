def zz_MN (l : Launch) (y : MethodName) (Ts : List Cond) (rm : Room) (D : va_G) (cl : List vw_C) (tys : List (ClassId × FieldType)) (As : List Value) (w0 : va_W) (Ex : State → Prop) {S : Type} (wfs : S → va_W) (mc ms : Nat) (post : S → Prop) : Prop :=
  ∀ sz : Nat, Met l y Ts rm (fun v U => zz_Pc D cl tys As sz w0 v U ∧ Ex U) (va_Qv post (fun (u : S) (t : State) => va_P D cl (wfs u) t.heap ∧ va_K D cl tys t ∧ va_D (va_A w0 sz) (wfs u)) (va_A w0 sz)) mc ms (va_A w0 sz)
def zz_ad (l : List Nat) : Nat → Nat := fun k => l.getD k 0
def zz_u0 : zz_St := (fun _ => 0, fun _ => 0, fun _ _ => 0, fun _ _ => 0)
theorem zz_nai (N : Nat) (cA : ClassId) : vp_cell cA (N, .inl (fun _ => 0)) = arrV cA N (fun _ => defaultValue .int) := rfl
theorem zz_naz (N : Nat) (cA : ClassId) : vp_cell cA (N, .inl (fun _ => 0)) = arrV cA N (fun _ => defaultValue .boolean) := rfl
theorem zz_nal (N : Nat) (cA : ClassId) : vp_cell cA (N, .inr (.inl (fun _ => 0))) = arrV cA N (fun _ => defaultValue .long) := rfl
section ZN
variable {p : Program} {l : Launch} {e : Env} {R : Room} {s : State} {m : MethodId} {args : Array Value} {below : List Frame} {meth : Method} {c : Code} {H : Heap} {locs : List Loc} {cells slots : Nat} {Q : State → Prop}
variable {own : String} {cc bytes : ByteArray} {nL maxL pc n index mc ms : Nat} {ret : Option FieldType} {rt : FieldType} {D : va_G} {cl : List vw_C} {tys : List (ClassId × FieldType)} {A : Nat → Prop} {ws w0 w1 : va_W} {wf : zz_St → va_W} {u : zz_St} {ls : Array Slot} {As rest st0 : List Value} {a : Nat} {y : MethodName} {rm : Room} {S : Type} {wfs : S → va_W} {Ex : State → Prop} {post : S → Prop}
theorem zz_ofN (hy : plainName y.cls = true) (hy1 : y.name = "<init>") (hlen : (lg_sl As).length ≤ nL)
    (body : ∀ (p : Program) (e : Env) (s : State) (m : MethodId) (below : List Frame) (meth : Method) (c : Code) (A : Nat → Prop), zz_Cx p s m As.toArray meth c y.cls cc nL none D cl tys A → Ex s → meth.name = "<init>" → zz_Wd D cl A s.heap s.heap [] w0 → ∀ ls : Array Slot, lv_has ls nL (lv_args 0 As) → W p l e rm s m As.toArray below meth c s.heap [] 0 0 (MQ below (va_Qv post (fun (u : S) (t : State) => va_P D cl (wfs u) t.heap ∧ va_K D cl tys t ∧ va_D A (wfs u)) A) As.toArray s mc ms A) (F0 m 0 ls [])) :
    zz_MN l y (.code y cc nL none :: zz_tbl) rm D cl tys As w0 Ex wfs mc ms post := by
  intro sz
  refine Met.ofW (cc := cc) (maxL := nL) (ret := none) hy rfl ?_
  intro p e s m args below meth c s₁ B hml hv
  obtain ⟨⟨rfl, hsz, hP, hK, hD0⟩, hex⟩ := hv
  have hts := atoms_spec (ws := .code y cc nL none :: zz_tbl) B.pre
  subst hsz
  have hD := hD0.self (sz := s.heap.size)
  generalize hAe : va_A w0 s.heap.size = A at hD ⊢
  have hA : ∀ q : Nat, s.heap.size ≤ q → A q := fun q h => by rw [← hAe]; exact Or.inr h
  have hl := lv_entry As (n := nL) hlen
  rw [lg_entry_eq]
  exact body p e s m below meth c A ⟨B.exec, B.bytes, B.returns, hml, findClass_of_methodNamed B.named, fun w h => hts w (List.mem_cons_of_mem _ h), B.notSynchronized, hK, hA⟩ hex ((name_of_methodNamed B.named B.method).1.trans hy1) ⟨hP, hD, va_S.rf⟩ _ hl
theorem zz_retn (cx : zz_Cx p s m args meth c own cc nL none D cl tys A) {u : S} (hw : zz_Wd D cl A s.heap H locs (wfs u)) (hdg : decode cc pc = .ok (.return_, 1)) (h : post u) : W p l e R s m args below meth c H locs cells slots (MQ below (va_Qv post (fun (u : S) (t : State) => va_P D cl (wfs u) t.heap ∧ va_K D cl tys t ∧ va_D A (wfs u)) A) args s cells slots A) (F0 m pc ls []) := by
  obtain ⟨hx, hb, hr, hml, hown, hts, hlocks, hK, hA⟩ := cx
  obtain ⟨hP, hD, hS⟩ := hw
  exact W.vret hx hb hr (fun t ht hW => ⟨⟨u, rfl, h, by rw [ht]; exact hP, va_K.moved hW.alike hK, hD⟩, hS.F ht⟩) hS.2.2 hdg
theorem zz_newa (cx : zz_Cx p s m args meth c own cc nL ret D cl tys A) (hw : zz_Wd D cl A s.heap H locs ws) {atype : ArrayType} {ty : FieldType} (hty : newarray.typeOf atype = ty) (hra : ∀ (U : State) (c : ClassId), va_RA U c ty ↔ U.vm.findClass ("[" ++ ty.toString) = some c) (harr : Cond.arrayClass ty ∈ zz_tbl) (t0 : Nat) {cA : ClassId} (ht : tys[t0]? = some (cA, ty)) {n : Int32} {N' : Nat} {a0 : vp_A} (ha : ∀ cA : ClassId, vp_cell cA a0 = arrV cA N' (fun _ => defaultValue ty)) (hn : ¬ n < 0) (hN : n.toNatClampNeg = N') (hbytes : N' * componentBytes ty ≤ 536870912) (hcells : cells + 1 ≤ R.cells) (hslots : slots + N' ≤ R.slots) (hdg : decode cc pc = .ok (.newarray atype, 2)) {k2 n2 : Nat} (hk2 : cells + 1 = k2) (hn2 : slots + N' = n2)
    (kk : ∀ (q : Nat) (H1 : Heap), zz_Wd D cl A s.heap H1 locs (ws ++ [(q, .inl (cA, a0))]) → W p l e R s m args below meth c H1 locs k2 n2 Q (F0 m (pc + 2) ls (.ref q :: rest))) : W p l e R s m args below meth c H locs cells slots Q (F0 m pc ls (.int n :: rest)) := by
  obtain ⟨hx, hb, hr, hml, hown, hts, hlocks, hK, hA⟩ := cx
  obtain ⟨hP, hD, hS⟩ := hw
  subst hk2; subst hn2
  refine va_newa hx hb (by rw [hty]; exact hts _ harr) hty hK hP hD hS hA ha hn hN hbytes hcells hslots hdg (fun q cB H1 g1 g2 g3 g4 => ?_)
  have e1 := (hra _ _).mp (hK.2 t0 _ ht).2
  have e2 := (hra _ _).mp (g1.2 tys.length (cB, ty) (by rw [List.getElem?_append_right (Nat.le_refl _), Nat.sub_self]; rfl)).2
  have e3 : cB = cA := Option.some.inj (e2.symm.trans e1)
  subst e3
  exact kk q H1 ⟨g2, g3, g4⟩
theorem zz_putF (cx : zz_Cx p s m args meth c own cc nL ret D cl tys A) (hin2 : meth.name = "<init>") (hw : zz_Wd D cl A s.heap H locs ws) {C : String} {T : u_T} {N ci index : Nat} (hin : ∀ w ∈ u_ws C T N, w ∈ zz_tbl) (ty0 : Nat → FieldType) (hty : ∀ k, k < N → parseFieldDescriptor (T k).2.2.1 = some (ty0 k)) (hnm : ∀ a, a < N → ∀ b, b < N → a ≠ b → (T a).2.1 ≠ (T b).2.1) (q0 : Nat) {fs : List Value} (he : ws[q0]? = some (a, .inr (ci, fs))) (hc : cl[ci]? = some (C, T, N)) (k : Nat) (hk : k < N) (hlink : Cond.fieldLink own index (T k).1 (T k).2.1 (T k).2.2.1 ∈ zz_tbl) (hfin : (T k).2.2.2 = true) (hdecl : (T k).1 = own) {v : Value} (hn : narrow (ty0 k) v = v ∧ fits (ty0 k) v = true) (hl : k < fs.length) {ws' : va_W} (hws : ws.set q0 (a, .inr (ci, fs.set k v)) = ws') (hdg : decode cc pc = .ok (.putfield index, 3))
    (kk : ∀ (H1 : Heap) (locs1 : List Loc), zz_Wd D cl A s.heap H1 locs1 ws' → W p l e R s m args below meth c H1 locs1 cells slots Q (F0 m (pc + 3) ls rest)) : W p l e R s m args below meth c H locs cells slots Q (F0 m pc ls (v :: .ref a :: rest)) := by
  obtain ⟨hx, hb, hr, hml, hown, hts, hlocks, hK, hA⟩ := cx
  obtain ⟨hP, hD, hS⟩ := hw
  subst hws
  exact va_putF hx hb hts hin ty0 hty hnm hown hK hP hD hS q0 he hc k hk (hts _ hlink) (fun _ h9 => h9) hfin hin2 hdecl (hty k hk) hn.1 hn.2 hl hdg (fun H1 locs1 h1 h2 h3 => kk H1 locs1 ⟨h1, h2, h3⟩)
theorem zz_oinit (cx : zz_Cx p s m args meth c own cc nL ret D cl tys A) {idx : Nat} (hls : ls.size = nL) (hlink : Cond.methodLink own idx Lib.objectInit ∈ zz_tbl) (hinst : Cond.instanceMethod Lib.objectInit ∈ zz_tbl) (hcode : Cond.code Lib.objectInit ⟨#[0xb1]⟩ 1 none ∈ zz_tbl) (hd : decode cc pc = .ok (.invokespecial idx, 3)) (hframes : 1 ≤ R.frames) (hlocals : (rest.map fun v => v.category).sum + 12 ≤ R.locals)
    (kk : W p l e R s m args below meth c H locs cells slots Q (F0 m (pc + 3) ls rest)) : W p l e R s m args below meth c H locs cells slots Q (F0 m pc ls (.ref a :: rest)) := by
  obtain ⟨hx, hb, hr, hml, hown, hts, hlocks, hK, hA⟩ := cx
  exact W.objInit hx hb hown (hts _ hlink) (hts _ hinst) (hts _ hcode) rfl (by rw [hml]; exact hls) rfl hd hframes (by show 2 * 0 + _ + 12 ≤ _; omega) kk
theorem zz_newo (cx : zz_Cx p s m args meth c own cc nL ret D cl tys A) (hw : zz_Wd D cl A s.heap H locs ws) {C : String} {T : u_T} {N ci : Nat} (hin : ∀ w ∈ u_ws C T N, w ∈ zz_tbl) (ty : Nat → FieldType) (hty : ∀ k, k < N → parseFieldDescriptor (T k).2.2.1 = some (ty k)) (hcl : Cond.classLink own index C ∈ zz_tbl) (hinst : Cond.instantiable C N ∈ zz_tbl) (hini : Cond.initialized C ∈ zz_tbl) (hc : cl[ci]? = some (C, T, N)) {fs : List Value} (hfs : ∀ j, j < N → defaultValue (ty j) = vp_V fs j) (hcells : cells + 1 ≤ R.cells) (hslots : slots + N ≤ R.slots) (hdg : decode cc pc = .ok (.new index, 3)) {k2 n2 : Nat} (hk2 : cells + 1 = k2) (hn2 : slots + N = n2)
    (kk : ∀ (q : Nat) (H1 : Heap), zz_Wd D cl A s.heap H1 locs (ws ++ [(q, .inr (ci, fs))]) → W p l e R s m args below meth c H1 locs k2 n2 Q (F0 m (pc + 3) ls (.ref q :: rest))) : W p l e R s m args below meth c H locs cells slots Q (F0 m pc ls rest) := by
  obtain ⟨hx, hb, hr, hml, hown, hts, hlocks, hK, hA⟩ := cx
  obtain ⟨hP, hD, hS⟩ := hw
  subst hk2; subst hn2
  exact va_new hx hb hts hin ty hty hown (hts _ hcl) (hts _ hinst) (hts _ hini) hK hP hD hS hA hc hfs hcells hslots hdg (fun q H1 g1 g2 g3 => kk q H1 ⟨g1, g2, g3⟩)
theorem zz_callVvN {post : zz_St → Prop} (cx : zz_Cx p s m args meth c own cc nL ret D cl tys A) (hw : zz_Wd D cl A s.heap H locs (wf u)) (hM : zz_MV l y (.code y bytes maxL none :: zz_tbl) rm D cl tys wf (.ref a :: As) u post) (hg : GoodIn zz_tbl (wsV own index y.cls y (.code y bytes maxL none :: zz_tbl))) (hd : y.cls ≠ "java/lang/invoke/MethodHandle" ∧ y.cls ≠ "java/lang/invoke/VarHandle" ∧ (parseMethodDescriptor y.desc).map (fun d => d.parameters.length) = some n) (hrm : rm.cells = 0 ∧ rm.slots = 0) (hR : rm.frames + 1 ≤ R.frames ∧ 8 + (maxL + 11) + rm.locals ≤ R.locals) (hcs : cells ≤ R.cells ∧ slots ≤ R.slots) (q0 : Nat) {ci : Nat} {fs : List Value} {q : vw_C} (he : (wf u)[q0]? = some (a, .inr (ci, fs))) (hc : cl[ci]? = some q) (hq : q.1 = y.cls) (hn : As.length = n) (hls : ls.size = nL) (hst : st0 = As.reverse ++ .ref a :: rest) (hro : (rest.map fun v => v.category).sum ≤ 8) (hdg : decode cc pc = .ok (.invokevirtual index, 3))
    (kk : ∀ (u1 : zz_St) (H1 : Heap) (locs1 : List Loc), post u1 → zz_Wd D cl A s.heap H1 locs1 (wf u1) → W p l e R s m args below meth c H1 locs1 cells slots Q (F0 m (pc + 3) ls rest)) : W p l e R s m args below meth c H locs cells slots Q (F0 m pc ls st0) := by
  have hF := zz_sub hw cx.2.2.2.2.2.2.2.2
  obtain ⟨hx, hb, hr, hml, hown, hts, hlocks, hK, hA⟩ := cx
  obtain ⟨hP, hD, hS⟩ := hw
  refine va_callv (va_runV (As := As) (rest := rest) ⟨hx, hb, hml, hown, hts⟩ (hM H.size) (cwV n hts hg rfl hrm.1 hrm.2 ⟨rfl, hd⟩ hR) ⟨zz_blind, by have hrv := va_recv hK hP hc he; rw [hq] at hrv; exact hrv, fun U hU hW => ⟨rfl, by rw [hU], by rw [hU]; exact hP, va_K.moved hW.alike hK, hD.weaken (fun _ _ _ _ => trivial)⟩⟩ rfl hn hls hst (lv_room hro) hdg hcs) hS (fun q _ h => hF q h) hF (fun u1 t H1 locs1 ht hvm hp hB hz1 hk1 hS1 => ?_)
  obtain ⟨hP1, hK1, hD1⟩ := hB
  rw [ht] at hP1
  exact kk u1 H1 locs1 hp ⟨hP1, hD1.weaken (fun _ q _ h => hF q.1 h), hS1⟩
theorem zz_callSiN {post : Int32 → zz_St → Prop} (cx : zz_Cx p s m args meth c own cc nL ret D cl tys A) (hw : zz_Wd D cl A s.heap H locs (wf u)) (hM : zz_MI l y (.code y bytes maxL (some rt) :: zz_tbl) rm D cl tys wf As u post) (hg : GoodIn zz_tbl (va_wsS own index y (.code y bytes maxL (some rt) :: zz_tbl))) (hd : y.cls ≠ "java/lang/invoke/MethodHandle" ∧ y.cls ≠ "java/lang/invoke/VarHandle" ∧ (parseMethodDescriptor y.desc).map (fun d => d.parameters.length) = some n) (hrm : rm.cells = 0 ∧ rm.slots = 0) (hR : rm.frames + 1 ≤ R.frames ∧ 8 + (maxL + 11) + rm.locals ≤ R.locals) (hcs : cells ≤ R.cells ∧ slots ≤ R.slots) (hn : As.length = n) (hls : ls.size = nL) (hst : st0 = As.reverse ++ rest) (hro : (rest.map fun v => v.category).sum ≤ 8) (hdg : decode cc pc = .ok (.invokestatic index, 3))
    (kk : ∀ (r : Int32) (u1 : zz_St) (H1 : Heap) (locs1 : List Loc), post r u1 → zz_Wd D cl A s.heap H1 locs1 (wf u1) → W p l e R s m args below meth c H1 locs1 cells slots Q (F0 m (pc + 3) ls (.int r :: rest))) : W p l e R s m args below meth c H locs cells slots Q (F0 m pc ls st0) := by
  have hF := zz_sub hw cx.2.2.2.2.2.2.2.2
  obtain ⟨hx, hb, hr, hml, hown, hts, hlocks, hK, hA⟩ := cx
  obtain ⟨hP, hD, hS⟩ := hw
  refine va_calli (va_runS (As := As) (rest := rest) ⟨hx, hb, hml, hown, hts⟩ (hM H.size) (va_cwS n hts hg rfl hrm.1 hrm.2 hd hR) ⟨zz_blind, fun U hU hW => ⟨rfl, by rw [hU], by rw [hU]; exact hP, va_K.moved hW.alike hK, hD.weaken (fun _ _ _ _ => trivial)⟩⟩ rfl hn hls hst (lv_room hro) hdg hcs) hS (fun q _ h => hF q h) hF (fun r u1 t H1 locs1 ht hvm hp hB hz1 hk1 hS1 => ?_)
  obtain ⟨hP1, hK1, hD1⟩ := hB
  rw [ht] at hP1
  exact kk r u1 H1 locs1 hp ⟨hP1, hD1.weaken (fun _ q _ h => hF q.1 h), hS1⟩
theorem zz_callN (cx : zz_Cx p s m args meth c own cc nL ret D cl tys A) (hw : zz_Wd D cl A s.heap H locs (w1 ++ w0)) (hM : zz_MN l y (.code y bytes maxL none :: zz_tbl) rm D cl tys (.ref a :: As) w0 Ex wfs mc ms post) (hEb : ∀ (u U : State), u.vm = U.vm → Ex u → Ex U) (hEx : ∀ U : State, s.WarmedH U.vm → Ex U) (hg : GoodIn zz_tbl (.code y bytes maxL none :: zz_tbl)) (hlk0 : Cond.methodLink own index y ∈ zz_tbl) (hini : Cond.initialized y.cls ∈ zz_tbl) (hinst : Cond.instanceMethod y ∈ zz_tbl) (hy1 : y.name = "<init>") (hd : y.cls ≠ "java/lang/invoke/MethodHandle" ∧ y.cls ≠ "java/lang/invoke/VarHandle" ∧ (parseMethodDescriptor y.desc).map (fun d => d.parameters.length) = some n) (hrm : rm.cells = mc ∧ rm.slots = ms) (hR : rm.frames + 1 ≤ R.frames ∧ 8 + (maxL + 11) + rm.locals ≤ R.locals) (hcs : cells + mc ≤ R.cells ∧ slots + ms ≤ R.slots) (hn : As.length = n) (hls : ls.size = nL) (hst : st0 = As.reverse ++ .ref a :: rest) (hro : (rest.map fun v => v.category).sum ≤ 8) (hdg : decode cc pc = .ok (.invokespecial index, 3)) {k2 n2 : Nat} (hk2 : cells + mc = k2) (hn2 : slots + ms = n2)
    (kk : ∀ (u1 : S) (H1 : Heap) (locs1 : List Loc), post u1 → zz_Wd D cl A s.heap H1 locs1 (w1 ++ wfs u1) → W p l e R s m args below meth c H1 locs1 k2 n2 Q (F0 m (pc + 3) ls rest)) : W p l e R s m args below meth c H locs cells slots Q (F0 m pc ls st0) := by
  obtain ⟨hx, hb, hr, hml, hown, hts, hlocks, hK, hA⟩ := cx
  obtain ⟨hP, hD, hS⟩ := hw
  subst hk2; subst hn2
  have hF : ∀ q, va_A w0 H.size q → A q := by
    intro q h
    rcases h with ⟨k, e, h⟩ | h
    · exact (zz_Dr hD).2 k (q, e) h
    · exact hA q (Nat.le_trans hS.1 h)
  refine va_callv (va_runI (As := As) (rest := rest) ⟨hx, hb, hml, hown, hts⟩ (hM H.size) (cwI n hts hg rfl hrm.1 hrm.2 (hts _ hini) (hts _ hlk0) (hts _ hinst) hy1 hd hR) ⟨fun a U g mk q => ⟨zz_blind a U g mk q.1, hEb U (U.calling g mk a) rfl q.2⟩, fun U hU hW => ⟨⟨rfl, by rw [hU], by rw [hU]; exact zz_Pr hP, va_K.moved hW.alike hK, (zz_Dr hD).weaken (fun _ _ _ _ => trivial)⟩, hEx U hW⟩⟩ rfl hn hls hst (lv_room hro) hdg hcs) hS (fun q _ h => hF q h) hF (fun u1 t H1 locs1 ht hvm hp hB hz1 hk1 hS1 => ?_)
  obtain ⟨hP1, hK1, hD1⟩ := hB
  rw [ht] at hP1
  obtain ⟨hP2, hD2⟩ := zz_joinR hP hD hk1 hF hP1 hD1
  exact kk u1 H1 locs1 hp ⟨hP2, hD2, hS1⟩
theorem zz_callNN (cx : zz_Cx p s m args meth c own cc nL ret D cl tys A) (hw : zz_Wd D cl A s.heap H locs (w1 ++ w0)) (hM : zz_MN l y (.code y bytes maxL none :: zz_tbl) rm D cl tys (.ref a :: As) w0 Ex wfs mc ms post) (hEb : ∀ (u U : State), u.vm = U.vm → Ex u → Ex U) (hEx : ∀ U : State, s.WarmedH U.vm → Ex U) (hg : GoodIn zz_tbl (.code y bytes maxL none :: zz_tbl)) {host : String} (hlk0 : va_Nw (.methodLinkNest own index y host) s) (hini : Cond.initialized y.cls ∈ zz_tbl) (hinst : Cond.instanceMethod y ∈ zz_tbl) (hy1 : y.name = "<init>") (hd : y.cls ≠ "java/lang/invoke/MethodHandle" ∧ y.cls ≠ "java/lang/invoke/VarHandle" ∧ (parseMethodDescriptor y.desc).map (fun d => d.parameters.length) = some n) (hrm : rm.cells = mc ∧ rm.slots = ms) (hR : rm.frames + 1 ≤ R.frames ∧ 8 + (maxL + 11) + rm.locals ≤ R.locals) (hcs : cells + mc ≤ R.cells ∧ slots + ms ≤ R.slots) (hn : As.length = n) (hls : ls.size = nL) (hst : st0 = As.reverse ++ .ref a :: rest) (hro : (rest.map fun v => v.category).sum ≤ 8) (hdg : decode cc pc = .ok (.invokespecial index, 3)) {k2 n2 : Nat} (hk2 : cells + mc = k2) (hn2 : slots + ms = n2)
    (kk : ∀ (u1 : S) (H1 : Heap) (locs1 : List Loc), post u1 → zz_Wd D cl A s.heap H1 locs1 (w1 ++ wfs u1) → W p l e R s m args below meth c H1 locs1 k2 n2 Q (F0 m (pc + 3) ls rest)) : W p l e R s m args below meth c H locs cells slots Q (F0 m pc ls st0) := by
  obtain ⟨hx, hb, hr, hml, hown, hts, hlocks, hK, hA⟩ := cx
  obtain ⟨hP, hD, hS⟩ := hw
  subst hk2; subst hn2
  have hF : ∀ q, va_A w0 H.size q → A q := by
    intro q h
    rcases h with ⟨k, e, h⟩ | h
    · exact (zz_Dr hD).2 k (q, e) h
    · exact hA q (Nat.le_trans hS.1 h)
  refine va_callv (va_runIN (As := As) (rest := rest) ⟨hx, hb, hml, hown, hts⟩ (hM H.size) ⟨va_cnB n hts hg rfl hrm.1 hrm.2 hlk0 (hts _ hini) hd hR, hy1, hts _ hinst⟩ ⟨fun a U g mk q => ⟨zz_blind a U g mk q.1, hEb U (U.calling g mk a) rfl q.2⟩, fun U hU hW => ⟨⟨rfl, by rw [hU], by rw [hU]; exact zz_Pr hP, va_K.moved hW.alike hK, (zz_Dr hD).weaken (fun _ _ _ _ => trivial)⟩, hEx U hW⟩⟩ rfl hn hls hst (lv_room hro) hdg hcs) hS (fun q _ h => hF q h) hF (fun u1 t H1 locs1 ht hvm hp hB hz1 hk1 hS1 => ?_)
  obtain ⟨hP1, hK1, hD1⟩ := hB
  rw [ht] at hP1
  obtain ⟨hP2, hD2⟩ := zz_joinR hP hD hk1 hF hP1 hD1
  exact kk u1 H1 locs1 hp ⟨hP2, hD2, hS1⟩
end ZN
