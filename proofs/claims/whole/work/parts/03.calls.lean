section ZC
variable {p : Program} {l : Launch} {e : Env} {R : Room} {s : State} {m : MethodId} {args : Array Value} {below : List Frame} {meth : Method} {c : Code} {H : Heap} {locs : List Loc} {Q : State → Prop}
variable {own : String} {cc bytes : ByteArray} {nL maxL pc n index : Nat} {ret : Option FieldType} {rt : FieldType} {D : va_G} {cl : List vw_C} {tys : List (ClassId × FieldType)} {A : Nat → Prop} {wf : zz_St → va_W} {u : zz_St} {ls : Array Slot} {As rest st0 : List Value} {a : Nat} {y : MethodName} {rm : Room}
theorem zz_callVi {post : Int32 → zz_St → Prop} (cx : zz_Cx p s m args meth c own cc nL ret D cl tys A) (hw : zz_Wd D cl A s.heap H locs (wf u)) (hM : zz_MI l y (.code y bytes maxL (some rt) :: zz_tbl) rm D cl tys wf (.ref a :: As) u post) (hg : GoodIn zz_tbl (wsV own index y.cls y (.code y bytes maxL (some rt) :: zz_tbl))) (hd : y.cls ≠ "java/lang/invoke/MethodHandle" ∧ y.cls ≠ "java/lang/invoke/VarHandle" ∧ (parseMethodDescriptor y.desc).map (fun d => d.parameters.length) = some n) (hrm : rm.cells = 0 ∧ rm.slots = 0) (hR : rm.frames + 1 ≤ R.frames ∧ 8 + (maxL + 11) + rm.locals ≤ R.locals) (q0 : Nat) {ci : Nat} {fs : List Value} {q : vw_C} (he : (wf u)[q0]? = some (a, .inr (ci, fs))) (hc : cl[ci]? = some q) (hq : q.1 = y.cls) (hn : As.length = n) (hls : ls.size = nL) (hst : st0 = As.reverse ++ .ref a :: rest) (hro : (rest.map fun v => v.category).sum ≤ 8) (hdg : decode cc pc = .ok (.invokevirtual index, 3))
    (kk : ∀ (r : Int32) (u1 : zz_St) (H1 : Heap) (locs1 : List Loc), post r u1 → zz_Wd D cl A s.heap H1 locs1 (wf u1) → W p l e R s m args below meth c H1 locs1 0 0 Q (F0 m (pc + 3) ls (.int r :: rest))) : W p l e R s m args below meth c H locs 0 0 Q (F0 m pc ls st0) := by
  have hF := zz_sub hw cx.2.2.2.2.2.2.2.2
  obtain ⟨hx, hb, hr, hml, hown, hts, hlocks, hK, hA⟩ := cx
  obtain ⟨hP, hD, hS⟩ := hw
  refine va_calli (va_runV (As := As) (rest := rest) ⟨hx, hb, hml, hown, hts⟩ (hM H.size) (cwV n hts hg rfl hrm.1 hrm.2 ⟨rfl, hd⟩ hR) ⟨zz_blind, by have hrv := va_recv hK hP hc he; rw [hq] at hrv; exact hrv, fun U hU hW => ⟨rfl, by rw [hU], by rw [hU]; exact hP, va_K.moved hW.alike hK, hD.weaken (fun _ _ _ _ => trivial)⟩⟩ rfl hn hls hst (lv_room hro) hdg ⟨Nat.zero_le _, Nat.zero_le _⟩) hS (fun q _ h => hF q h) hF (fun r u1 t H1 locs1 ht hvm hp hB hz1 hk1 hS1 => ?_)
  obtain ⟨hP1, hK1, hD1⟩ := hB
  rw [ht] at hP1
  exact kk r u1 H1 locs1 hp ⟨hP1, hD1.weaken (fun _ q _ h => hF q.1 h), hS1⟩
theorem zz_callSi {post : Int32 → zz_St → Prop} (cx : zz_Cx p s m args meth c own cc nL ret D cl tys A) (hw : zz_Wd D cl A s.heap H locs (wf u)) (hM : zz_MI l y (.code y bytes maxL (some rt) :: zz_tbl) rm D cl tys wf As u post) (hg : GoodIn zz_tbl (va_wsS own index y (.code y bytes maxL (some rt) :: zz_tbl))) (hd : y.cls ≠ "java/lang/invoke/MethodHandle" ∧ y.cls ≠ "java/lang/invoke/VarHandle" ∧ (parseMethodDescriptor y.desc).map (fun d => d.parameters.length) = some n) (hrm : rm.cells = 0 ∧ rm.slots = 0) (hR : rm.frames + 1 ≤ R.frames ∧ 8 + (maxL + 11) + rm.locals ≤ R.locals) (hn : As.length = n) (hls : ls.size = nL) (hst : st0 = As.reverse ++ rest) (hro : (rest.map fun v => v.category).sum ≤ 8) (hdg : decode cc pc = .ok (.invokestatic index, 3))
    (kk : ∀ (r : Int32) (u1 : zz_St) (H1 : Heap) (locs1 : List Loc), post r u1 → zz_Wd D cl A s.heap H1 locs1 (wf u1) → W p l e R s m args below meth c H1 locs1 0 0 Q (F0 m (pc + 3) ls (.int r :: rest))) : W p l e R s m args below meth c H locs 0 0 Q (F0 m pc ls st0) := by
  have hF := zz_sub hw cx.2.2.2.2.2.2.2.2
  obtain ⟨hx, hb, hr, hml, hown, hts, hlocks, hK, hA⟩ := cx
  obtain ⟨hP, hD, hS⟩ := hw
  refine va_calli (va_runS (As := As) (rest := rest) ⟨hx, hb, hml, hown, hts⟩ (hM H.size) (va_cwS n hts hg rfl hrm.1 hrm.2 hd hR) ⟨zz_blind, fun U hU hW => ⟨rfl, by rw [hU], by rw [hU]; exact hP, va_K.moved hW.alike hK, hD.weaken (fun _ _ _ _ => trivial)⟩⟩ rfl hn hls hst (lv_room hro) hdg ⟨Nat.zero_le _, Nat.zero_le _⟩) hS (fun q _ h => hF q h) hF (fun r u1 t H1 locs1 ht hvm hp hB hz1 hk1 hS1 => ?_)
  obtain ⟨hP1, hK1, hD1⟩ := hB
  rw [ht] at hP1
  exact kk r u1 H1 locs1 hp ⟨hP1, hD1.weaken (fun _ q _ h => hF q.1 h), hS1⟩
theorem zz_callVl {post : Int64 → zz_St → Prop} (cx : zz_Cx p s m args meth c own cc nL ret D cl tys A) (hw : zz_Wd D cl A s.heap H locs (wf u)) (hM : zz_ML l y (.code y bytes maxL (some rt) :: zz_tbl) rm D cl tys wf (.ref a :: As) u post) (hg : GoodIn zz_tbl (wsV own index y.cls y (.code y bytes maxL (some rt) :: zz_tbl))) (hd : y.cls ≠ "java/lang/invoke/MethodHandle" ∧ y.cls ≠ "java/lang/invoke/VarHandle" ∧ (parseMethodDescriptor y.desc).map (fun d => d.parameters.length) = some n) (hrm : rm.cells = 0 ∧ rm.slots = 0) (hR : rm.frames + 1 ≤ R.frames ∧ 8 + (maxL + 11) + rm.locals ≤ R.locals) (q0 : Nat) {ci : Nat} {fs : List Value} {q : vw_C} (he : (wf u)[q0]? = some (a, .inr (ci, fs))) (hc : cl[ci]? = some q) (hq : q.1 = y.cls) (hn : As.length = n) (hls : ls.size = nL) (hst : st0 = As.reverse ++ .ref a :: rest) (hro : (rest.map fun v => v.category).sum ≤ 8) (hdg : decode cc pc = .ok (.invokevirtual index, 3))
    (kk : ∀ (r : Int64) (u1 : zz_St) (H1 : Heap) (locs1 : List Loc), post r u1 → zz_Wd D cl A s.heap H1 locs1 (wf u1) → W p l e R s m args below meth c H1 locs1 0 0 Q (F0 m (pc + 3) ls (.long r :: rest))) : W p l e R s m args below meth c H locs 0 0 Q (F0 m pc ls st0) := by
  have hF := zz_sub hw cx.2.2.2.2.2.2.2.2
  obtain ⟨hx, hb, hr, hml, hown, hts, hlocks, hK, hA⟩ := cx
  obtain ⟨hP, hD, hS⟩ := hw
  refine va_calll (va_runV (As := As) (rest := rest) ⟨hx, hb, hml, hown, hts⟩ (hM H.size) (cwV n hts hg rfl hrm.1 hrm.2 ⟨rfl, hd⟩ hR) ⟨zz_blind, by have hrv := va_recv hK hP hc he; rw [hq] at hrv; exact hrv, fun U hU hW => ⟨rfl, by rw [hU], by rw [hU]; exact hP, va_K.moved hW.alike hK, hD.weaken (fun _ _ _ _ => trivial)⟩⟩ rfl hn hls hst (lv_room hro) hdg ⟨Nat.zero_le _, Nat.zero_le _⟩) hS (fun q _ h => hF q h) hF (fun r u1 t H1 locs1 ht hvm hp hB hz1 hk1 hS1 => ?_)
  obtain ⟨hP1, hK1, hD1⟩ := hB
  rw [ht] at hP1
  exact kk r u1 H1 locs1 hp ⟨hP1, hD1.weaken (fun _ q _ h => hF q.1 h), hS1⟩
theorem zz_callSl {post : Int64 → zz_St → Prop} (cx : zz_Cx p s m args meth c own cc nL ret D cl tys A) (hw : zz_Wd D cl A s.heap H locs (wf u)) (hM : zz_ML l y (.code y bytes maxL (some rt) :: zz_tbl) rm D cl tys wf As u post) (hg : GoodIn zz_tbl (va_wsS own index y (.code y bytes maxL (some rt) :: zz_tbl))) (hd : y.cls ≠ "java/lang/invoke/MethodHandle" ∧ y.cls ≠ "java/lang/invoke/VarHandle" ∧ (parseMethodDescriptor y.desc).map (fun d => d.parameters.length) = some n) (hrm : rm.cells = 0 ∧ rm.slots = 0) (hR : rm.frames + 1 ≤ R.frames ∧ 8 + (maxL + 11) + rm.locals ≤ R.locals) (hn : As.length = n) (hls : ls.size = nL) (hst : st0 = As.reverse ++ rest) (hro : (rest.map fun v => v.category).sum ≤ 8) (hdg : decode cc pc = .ok (.invokestatic index, 3))
    (kk : ∀ (r : Int64) (u1 : zz_St) (H1 : Heap) (locs1 : List Loc), post r u1 → zz_Wd D cl A s.heap H1 locs1 (wf u1) → W p l e R s m args below meth c H1 locs1 0 0 Q (F0 m (pc + 3) ls (.long r :: rest))) : W p l e R s m args below meth c H locs 0 0 Q (F0 m pc ls st0) := by
  have hF := zz_sub hw cx.2.2.2.2.2.2.2.2
  obtain ⟨hx, hb, hr, hml, hown, hts, hlocks, hK, hA⟩ := cx
  obtain ⟨hP, hD, hS⟩ := hw
  refine va_calll (va_runS (As := As) (rest := rest) ⟨hx, hb, hml, hown, hts⟩ (hM H.size) (va_cwS n hts hg rfl hrm.1 hrm.2 hd hR) ⟨zz_blind, fun U hU hW => ⟨rfl, by rw [hU], by rw [hU]; exact hP, va_K.moved hW.alike hK, hD.weaken (fun _ _ _ _ => trivial)⟩⟩ rfl hn hls hst (lv_room hro) hdg ⟨Nat.zero_le _, Nat.zero_le _⟩) hS (fun q _ h => hF q h) hF (fun r u1 t H1 locs1 ht hvm hp hB hz1 hk1 hS1 => ?_)
  obtain ⟨hP1, hK1, hD1⟩ := hB
  rw [ht] at hP1
  exact kk r u1 H1 locs1 hp ⟨hP1, hD1.weaken (fun _ q _ h => hF q.1 h), hS1⟩
theorem zz_callVv {post : zz_St → Prop} (cx : zz_Cx p s m args meth c own cc nL ret D cl tys A) (hw : zz_Wd D cl A s.heap H locs (wf u)) (hM : zz_MV l y (.code y bytes maxL (none) :: zz_tbl) rm D cl tys wf (.ref a :: As) u post) (hg : GoodIn zz_tbl (wsV own index y.cls y (.code y bytes maxL (none) :: zz_tbl))) (hd : y.cls ≠ "java/lang/invoke/MethodHandle" ∧ y.cls ≠ "java/lang/invoke/VarHandle" ∧ (parseMethodDescriptor y.desc).map (fun d => d.parameters.length) = some n) (hrm : rm.cells = 0 ∧ rm.slots = 0) (hR : rm.frames + 1 ≤ R.frames ∧ 8 + (maxL + 11) + rm.locals ≤ R.locals) (q0 : Nat) {ci : Nat} {fs : List Value} {q : vw_C} (he : (wf u)[q0]? = some (a, .inr (ci, fs))) (hc : cl[ci]? = some q) (hq : q.1 = y.cls) (hn : As.length = n) (hls : ls.size = nL) (hst : st0 = As.reverse ++ .ref a :: rest) (hro : (rest.map fun v => v.category).sum ≤ 8) (hdg : decode cc pc = .ok (.invokevirtual index, 3))
    (kk : ∀ (u1 : zz_St) (H1 : Heap) (locs1 : List Loc), post u1 → zz_Wd D cl A s.heap H1 locs1 (wf u1) → W p l e R s m args below meth c H1 locs1 0 0 Q (F0 m (pc + 3) ls (rest))) : W p l e R s m args below meth c H locs 0 0 Q (F0 m pc ls st0) := by
  have hF := zz_sub hw cx.2.2.2.2.2.2.2.2
  obtain ⟨hx, hb, hr, hml, hown, hts, hlocks, hK, hA⟩ := cx
  obtain ⟨hP, hD, hS⟩ := hw
  refine va_callv (va_runV (As := As) (rest := rest) ⟨hx, hb, hml, hown, hts⟩ (hM H.size) (cwV n hts hg rfl hrm.1 hrm.2 ⟨rfl, hd⟩ hR) ⟨zz_blind, by have hrv := va_recv hK hP hc he; rw [hq] at hrv; exact hrv, fun U hU hW => ⟨rfl, by rw [hU], by rw [hU]; exact hP, va_K.moved hW.alike hK, hD.weaken (fun _ _ _ _ => trivial)⟩⟩ rfl hn hls hst (lv_room hro) hdg ⟨Nat.zero_le _, Nat.zero_le _⟩) hS (fun q _ h => hF q h) hF (fun u1 t H1 locs1 ht hvm hp hB hz1 hk1 hS1 => ?_)
  obtain ⟨hP1, hK1, hD1⟩ := hB
  rw [ht] at hP1
  exact kk u1 H1 locs1 hp ⟨hP1, hD1.weaken (fun _ q _ h => hF q.1 h), hS1⟩
theorem zz_callSv {post : zz_St → Prop} (cx : zz_Cx p s m args meth c own cc nL ret D cl tys A) (hw : zz_Wd D cl A s.heap H locs (wf u)) (hM : zz_MV l y (.code y bytes maxL (none) :: zz_tbl) rm D cl tys wf As u post) (hg : GoodIn zz_tbl (va_wsS own index y (.code y bytes maxL (none) :: zz_tbl))) (hd : y.cls ≠ "java/lang/invoke/MethodHandle" ∧ y.cls ≠ "java/lang/invoke/VarHandle" ∧ (parseMethodDescriptor y.desc).map (fun d => d.parameters.length) = some n) (hrm : rm.cells = 0 ∧ rm.slots = 0) (hR : rm.frames + 1 ≤ R.frames ∧ 8 + (maxL + 11) + rm.locals ≤ R.locals) (hn : As.length = n) (hls : ls.size = nL) (hst : st0 = As.reverse ++ rest) (hro : (rest.map fun v => v.category).sum ≤ 8) (hdg : decode cc pc = .ok (.invokestatic index, 3))
    (kk : ∀ (u1 : zz_St) (H1 : Heap) (locs1 : List Loc), post u1 → zz_Wd D cl A s.heap H1 locs1 (wf u1) → W p l e R s m args below meth c H1 locs1 0 0 Q (F0 m (pc + 3) ls (rest))) : W p l e R s m args below meth c H locs 0 0 Q (F0 m pc ls st0) := by
  have hF := zz_sub hw cx.2.2.2.2.2.2.2.2
  obtain ⟨hx, hb, hr, hml, hown, hts, hlocks, hK, hA⟩ := cx
  obtain ⟨hP, hD, hS⟩ := hw
  refine va_callv (va_runS (As := As) (rest := rest) ⟨hx, hb, hml, hown, hts⟩ (hM H.size) (va_cwS n hts hg rfl hrm.1 hrm.2 hd hR) ⟨zz_blind, fun U hU hW => ⟨rfl, by rw [hU], by rw [hU]; exact hP, va_K.moved hW.alike hK, hD.weaken (fun _ _ _ _ => trivial)⟩⟩ rfl hn hls hst (lv_room hro) hdg ⟨Nat.zero_le _, Nat.zero_le _⟩) hS (fun q _ h => hF q h) hF (fun u1 t H1 locs1 ht hvm hp hB hz1 hk1 hS1 => ?_)
  obtain ⟨hP1, hK1, hD1⟩ := hB
  rw [ht] at hP1
  exact kk u1 H1 locs1 hp ⟨hP1, hD1.weaken (fun _ q _ h => hF q.1 h), hS1⟩
end ZC
