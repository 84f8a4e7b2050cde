/-! rows over a world that is a function of one value: the same cells at the same addresses throughout -/
def g_bA (n : Nat) (x : Nat → Nat) : Nat → Prop := fun q => ∃ i, i < n ∧ q = x i
def g_inj (n : Nat) (x : Nat → Nat) : Prop := ∀ i j, i < n → j < n → x i = x j → i = j
theorem g_D {ws : va_W} {n : Nat} {x : Nat → Nat} (h : ws.map Prod.fst = (List.range n).map x) (hi : g_inj n x) : va_D (g_bA n x) ws := by
  have key : ∀ (k : Nat) (q : Nat × va_E), ws[k]? = some q → k < n ∧ q.1 = x k := by
    intro k q hk
    have h1 : (ws.map Prod.fst)[k]? = some q.1 := by rw [List.getElem?_map, hk]; rfl
    rw [h, List.getElem?_map] at h1
    cases h2 : (List.range n)[k]? with
    | none => rw [h2] at h1; cases h1
    | some j =>
      rw [h2] at h1
      have h3 := List.getElem?_eq_some_iff.mp h2
      obtain ⟨h4, h5⟩ := h3
      have h6 : k < n := by simpa using h4
      have h7 : j = k := by rw [← h5]; simp
      subst h7
      exact ⟨h6, (Option.some.inj h1).symm⟩
  refine ⟨fun i j p q hp hq hpq => ?_, fun k q hk => ⟨k, (key k q hk).1, (key k q hk).2⟩⟩
  obtain ⟨a1, a2⟩ := key i p hp
  obtain ⟨b1, b2⟩ := key j q hq
  exact hi i j a1 b1 (by rw [← a2, ← b2]; exact hpq)
def g_Pc (D : va_G) (cl : List vw_C) (tys : List (ClassId × FieldType)) {S : Type} (w : S → va_W) (u : S) (av : List Value) : Array Value → State → Prop := va_Pc av (fun U => va_P D cl (w u) U.heap ∧ va_K D cl tys U)
theorem g_blind {D : va_G} {cl : List vw_C} {tys : List (ClassId × FieldType)} {S : Type} {w : S → va_W} {u : S} {av : List Value} : FrameBlind (g_Pc D cl tys w u av) := fun a U g mk q => ⟨q.1, q.2.1, va_K.moved (u := U) (U := U.calling g mk a) (Vm.Alike.refl U.vm) q.2.2⟩
/-- a method that answers an int: what it answers, and the value that its world is of then -/
def g_Mi (l : Launch) (y : MethodName) (cw : Cond) (rm : Room) (D : va_G) (cl : List vw_C) (tys : List (ClassId × FieldType)) {S : Type} (w : S → va_W) (A : Nat → Prop) (u : S) (av : List Value) (r : Int32) (v : S) : Prop :=
  Met l y (cw :: gtbl) rm (g_Pc D cl tys w u av) (va_Qi (fun r1 v1 => r1 = r ∧ v1 = v) (fun v1 t => va_P D cl (w v1) t.heap) A) 0 0 A
def g_Mv (l : Launch) (y : MethodName) (cw : Cond) (rm : Room) (D : va_G) (cl : List vw_C) (tys : List (ClassId × FieldType)) {S : Type} (w : S → va_W) (A : Nat → Prop) (u : S) (av : List Value) (v : S) : Prop :=
  Met l y (cw :: gtbl) rm (g_Pc D cl tys w u av) (va_Qv (fun v1 => v1 = v) (fun v1 t => va_P D cl (w v1) t.heap) A) 0 0 A
/-- the words of a call's site: all of them tables' words -/
def g_site (own C : String) (index : Nat) (y : MethodName) (bytes : ByteArray) (maxL : Nat) (ret : Option FieldType) (n : Nat) : Prop :=
  .methodLink own index y ∈ gtbl ∧ .instanceMethod y ∈ gtbl ∧ .selects C y y ∈ gtbl ∧ .initialized C ∈ gtbl ∧ .code y bytes maxL ret ∈ gtbl ∧
  (y.cls = C ∧ y.cls ≠ "java/lang/invoke/MethodHandle" ∧ y.cls ≠ "java/lang/invoke/VarHandle" ∧ (parseMethodDescriptor y.desc).map (fun d => d.parameters.length) = some n)
def g_siteS (own : String) (index : Nat) (y : MethodName) (bytes : ByteArray) (maxL : Nat) (ret : Option FieldType) (n : Nat) : Prop :=
  .methodLink own index y ∈ gtbl ∧ .static y ∈ gtbl ∧ .initialized y.cls ∈ gtbl ∧ .code y bytes maxL ret ∈ gtbl ∧
  (y.cls ≠ "java/lang/invoke/MethodHandle" ∧ y.cls ≠ "java/lang/invoke/VarHandle" ∧ (parseMethodDescriptor y.desc).map (fun d => d.parameters.length) = some n)
section GR
variable {p : Program} {l : Launch} {e : Env} {R : Room} {s : State} {m : MethodId} {args : Array Value} {below : List Frame} {meth : Method} {c : Code} {H : Heap} {locs : List Loc} {cells slots : Nat} {Q : State → Prop}
variable {S : Type} {D : va_G} {cl : List vw_C} {tys : List (ClassId × FieldType)} {w : S → va_W} {A : Nat → Prop} {u : S}
variable {cc bytes : ByteArray} {nL maxL index n : Nat} {own C : String} {y : MethodName} {ret : Option FieldType} {rm : Room} {pc b : Nat} {ls : Array Slot} {As rest st0 : List Value}
theorem g_cw (hg : ∀ w ∈ gtbl, w.before args s = true) (h : g_site own C index y bytes maxL ret n) (hrc : rm.cells = 0) (hrs : rm.slots = 0) (hR : rm.frames + 1 ≤ R.frames ∧ 8 + (maxL + 11) + rm.locals ≤ R.locals) :
    CallW R s args own C index y bytes maxL ret (.code y bytes maxL ret :: gtbl) rm 0 0 n := by
  obtain ⟨h1, h2, h3, h4, h5, h6⟩ := h
  refine cwV n hg (gt_goodIn (fun _ h => h) (fun q hq => ?_)) rfl hrc hrs h6 hR
  rcases List.mem_append.mp hq with h | h
  · simp only [List.mem_cons, List.not_mem_nil, or_false] at h
    rcases h with rfl | rfl | rfl | rfl
    · exact h1
    · exact h2
    · exact h3
    · exact h4
  · rcases List.mem_cons.mp h with rfl | h
    · exact h5
    · exact h
theorem g_cwS (hg : ∀ w ∈ gtbl, w.before args s = true) (h : g_siteS own index y bytes maxL ret n) (hrc : rm.cells = 0) (hrs : rm.slots = 0) (hR : rm.frames + 1 ≤ R.frames ∧ 8 + (maxL + 11) + rm.locals ≤ R.locals) :
    CallB R s args own index y bytes maxL ret (.code y bytes maxL ret :: gtbl) rm 0 0 n ∧ (Cond.static y).before args s = true := by
  obtain ⟨h1, h2, h3, h4, h6⟩ := h
  refine ⟨callB_of n hg (gt_goodIn (fun _ h => h) (fun q hq => ?_)) rfl hrc hrs (hg _ h3) (hg _ h1) h6 hR, hg _ h2⟩
  rcases List.mem_cons.mp hq with rfl | h
  · exact h4
  · exact h
theorem g_Vi {r : Int32} {v : S} (hx : p.tables.exec = Jvm.exec) (hb : c.code = cc) (hml : c.maxLocals = nL) (hown : s.vm.findClass own = some m.cls) (hg : ∀ w ∈ gtbl, w.before args s = true) (hM : g_Mi l y (.code y bytes maxL ret) rm D cl tys w A u (.ref b :: As) r v) (hs : g_site own C index y bytes maxL ret n)
    (hrc : rm.cells = 0) (hrs : rm.slots = 0) (hR : rm.frames + 1 ≤ R.frames ∧ 8 + (maxL + 11) + rm.locals ≤ R.locals) (hK : va_K D cl tys s) (hP : va_P D cl (w u) H) (hS : va_S A s.heap H locs) {q0 ci N : Nat} {T : u_T} {fs : List Value} (he : (w u)[q0]? = some (b, .inr (ci, fs))) (hc : cl[ci]? = some (C, T, N))
    (hn : As.length = n) (hsize : ls.size = nL) (hst : st0 = As.reverse ++ .ref b :: rest) (hW : (rest.map fun v => v.category).sum ≤ 8) (hdg : decode cc pc = .ok (.invokevirtual index, 3)) (hf : cells ≤ R.cells ∧ slots ≤ R.slots)
    (kk : ∀ (H1 : Heap) (locs1 : List Loc), va_P D cl (w v) H1 → va_S A s.heap H1 locs1 → W p l e R s m args below meth c H1 locs1 cells slots Q (F0 m (pc + 3) ls (.int r :: rest))) : W p l e R s m args below meth c H locs cells slots Q (F0 m pc ls st0) := by
  refine va_calli (A0 := A) (H0 := s.heap) (va_runV (As := As) (rest := rest) ⟨hx, hb, hml, hown, hg⟩ hM (g_cw hg hs hrc hrs hR) ⟨g_blind, va_recv hK hP hc he, fun U hU hW' => ⟨rfl, by rw [hU]; exact hP, va_K.moved hW'.alike hK⟩⟩ rfl hn hsize hst (lv_room hW) hdg hf) hS (fun q _ h => h) (fun q h => h) (fun r1 v1 t H1 locs1 ht hvm hw hB _ _ hS1 => ?_)
  obtain ⟨rfl, rfl⟩ := hw
  rw [ht] at hB
  exact kk H1 locs1 hB hS1
theorem g_Vv {v : S} (hx : p.tables.exec = Jvm.exec) (hb : c.code = cc) (hml : c.maxLocals = nL) (hown : s.vm.findClass own = some m.cls) (hg : ∀ w ∈ gtbl, w.before args s = true) (hM : g_Mv l y (.code y bytes maxL ret) rm D cl tys w A u (.ref b :: As) v) (hs : g_site own C index y bytes maxL ret n)
    (hrc : rm.cells = 0) (hrs : rm.slots = 0) (hR : rm.frames + 1 ≤ R.frames ∧ 8 + (maxL + 11) + rm.locals ≤ R.locals) (hK : va_K D cl tys s) (hP : va_P D cl (w u) H) (hS : va_S A s.heap H locs) {q0 ci N : Nat} {T : u_T} {fs : List Value} (he : (w u)[q0]? = some (b, .inr (ci, fs))) (hc : cl[ci]? = some (C, T, N))
    (hn : As.length = n) (hsize : ls.size = nL) (hst : st0 = As.reverse ++ .ref b :: rest) (hW : (rest.map fun v => v.category).sum ≤ 8) (hdg : decode cc pc = .ok (.invokevirtual index, 3)) (hf : cells ≤ R.cells ∧ slots ≤ R.slots)
    (kk : ∀ (H1 : Heap) (locs1 : List Loc), va_P D cl (w v) H1 → va_S A s.heap H1 locs1 → W p l e R s m args below meth c H1 locs1 cells slots Q (F0 m (pc + 3) ls rest)) : W p l e R s m args below meth c H locs cells slots Q (F0 m pc ls st0) := by
  refine va_callv (A0 := A) (H0 := s.heap) (va_runV (As := As) (rest := rest) ⟨hx, hb, hml, hown, hg⟩ hM (g_cw hg hs hrc hrs hR) ⟨g_blind, va_recv hK hP hc he, fun U hU hW' => ⟨rfl, by rw [hU]; exact hP, va_K.moved hW'.alike hK⟩⟩ rfl hn hsize hst (lv_room hW) hdg hf) hS (fun q _ h => h) (fun q h => h) (fun v1 t H1 locs1 ht hvm hw hB _ _ hS1 => ?_)
  obtain rfl := hw
  rw [ht] at hB
  exact kk H1 locs1 hB hS1
theorem g_Si {r : Int32} {v : S} (hx : p.tables.exec = Jvm.exec) (hb : c.code = cc) (hml : c.maxLocals = nL) (hown : s.vm.findClass own = some m.cls) (hg : ∀ w ∈ gtbl, w.before args s = true) (hM : g_Mi l y (.code y bytes maxL ret) rm D cl tys w A u As r v) (hs : g_siteS own index y bytes maxL ret n)
    (hrc : rm.cells = 0) (hrs : rm.slots = 0) (hR : rm.frames + 1 ≤ R.frames ∧ 8 + (maxL + 11) + rm.locals ≤ R.locals) (hK : va_K D cl tys s) (hP : va_P D cl (w u) H) (hS : va_S A s.heap H locs)
    (hn : As.length = n) (hsize : ls.size = nL) (hst : st0 = As.reverse ++ rest) (hW : (rest.map fun v => v.category).sum ≤ 8) (hdg : decode cc pc = .ok (.invokestatic index, 3)) (hf : cells ≤ R.cells ∧ slots ≤ R.slots)
    (kk : ∀ (H1 : Heap) (locs1 : List Loc), va_P D cl (w v) H1 → va_S A s.heap H1 locs1 → W p l e R s m args below meth c H1 locs1 cells slots Q (F0 m (pc + 3) ls (.int r :: rest))) : W p l e R s m args below meth c H locs cells slots Q (F0 m pc ls st0) := by
  refine va_calli (A0 := A) (H0 := s.heap) (va_runS (As := As) (rest := rest) ⟨hx, hb, hml, hown, hg⟩ hM (g_cwS hg hs hrc hrs hR) ⟨g_blind, fun U hU hW' => ⟨rfl, by rw [hU]; exact hP, va_K.moved hW'.alike hK⟩⟩ rfl hn hsize hst (lv_room hW) hdg hf) hS (fun q _ h => h) (fun q h => h) (fun r1 v1 t H1 locs1 ht hvm hw hB _ _ hS1 => ?_)
  obtain ⟨rfl, rfl⟩ := hw
  rw [ht] at hB
  exact kk H1 locs1 hB hS1
/-- a return: the answer and the world's value as the contract has them -/
theorem g_iret {r r1 : Int32} {v : S} (hx : p.tables.exec = Jvm.exec) (hb : c.code = cc) (hr : meth.sig.returnType = some .int) (hlocks : meth.locks = false) (hP : va_P D cl (w u) H) (hS : va_S A s.heap H locs) (hdg : decode cc pc = .ok (.ireturn, 1)) (h1 : r1 = r) (h2 : u = v) :
    W p l e R s m args below meth c H locs 0 0 (MQ below (va_Qi (fun r1 v1 => r1 = r ∧ v1 = v) (fun v1 t => va_P D cl (w v1) t.heap) A) args s 0 0 A) (F0 m pc ls [.int r1]) :=
  W.iret hx hb hr (fun t ht hW => ⟨⟨r1, u, rfl, ⟨h1, h2⟩, by show va_P D cl (w u) t.heap; rw [ht]; exact hP⟩, hS.F ht⟩) hS.2.2 hdg hlocks
theorem g_zret {r r1 : Int32} {v : S} (hx : p.tables.exec = Jvm.exec) (hb : c.code = cc) (hr : meth.sig.returnType = some .boolean) (hlocks : meth.locks = false) (hP : va_P D cl (w u) H) (hS : va_S A s.heap H locs) (hdg : decode cc pc = .ok (.ireturn, 1)) (hn : narrow .boolean (.int r1) = .int r1) (h1 : r1 = r) (h2 : u = v) :
    W p l e R s m args below meth c H locs 0 0 (MQ below (va_Qi (fun r1 v1 => r1 = r ∧ v1 = v) (fun v1 t => va_P D cl (w v1) t.heap) A) args s 0 0 A) (F0 m pc ls [.int r1]) :=
  W.zret hx hb hr hn (fun t ht hW => ⟨⟨r1, u, rfl, ⟨h1, h2⟩, by show va_P D cl (w u) t.heap; rw [ht]; exact hP⟩, hS.F ht⟩) hS.2.2 hdg hlocks
theorem g_vret {v : S} (hx : p.tables.exec = Jvm.exec) (hb : c.code = cc) (hr : meth.sig.returnType = none) (hlocks : meth.locks = false) (hP : va_P D cl (w u) H) (hS : va_S A s.heap H locs) (hdg : decode cc pc = .ok (.return_, 1)) (h2 : u = v) :
    W p l e R s m args below meth c H locs 0 0 (MQ below (va_Qv (fun v1 => v1 = v) (fun v1 t => va_P D cl (w v1) t.heap) A) args s 0 0 A) (F0 m pc ls []) :=
  W.vret hx hb hr (fun t ht hW => ⟨⟨u, rfl, h2, by show va_P D cl (w u) t.heap; rw [ht]; exact hP⟩, hS.F ht⟩) hS.2.2 hdg hlocks
/-- a boolean answer of which nothing is known: its lowest bit -/
theorem g_zretN {r : Int32} {r1 : Int32} {v : S} (hx : p.tables.exec = Jvm.exec) (hb : c.code = cc) (hr : meth.sig.returnType = some .boolean) (hlocks : meth.locks = false) (hP : va_P D cl (w u) H) (hS : va_S A s.heap H locs) (hdg : decode cc pc = .ok (.ireturn, 1)) (h1 : vp_nar .boolean r1 = r) (h2 : u = v) :
    W p l e R s m args below meth c H locs 0 0 (MQ below (va_Qi (fun r1 v1 => r1 = r ∧ v1 = v) (fun v1 t => va_P D cl (w v1) t.heap) A) args s 0 0 A) (F0 m pc ls [.int r1]) := by
  intro T hT X
  have hnr : narrow .boolean (.int r1) = .int (vp_nar .boolean r1) := rfl
  obtain ⟨fs, hret, hrun, hended, hW, hframe⟩ := X.leave (v := some (.int (vp_nar .boolean r1))) (hlocks := hlocks) (fun h => by rw [hr] at h; cases h)
  have hmeth' : T.vm.method? m = some meth := X.method'
  refine ⟨T.setFrames fs, ?_, .returned (some (.int (vp_nar .boolean r1))), hrun, hended, ⟨⟨vp_nar .boolean r1, u, rfl, ⟨h1, h2⟩, by show va_P D cl (w u) T.heap; rw [hT]; exact hP⟩, hS.F hT⟩, locs, ⟨⟨_, rfl⟩, hW, hframe⟩, hS.2.2⟩
  jvm_step X.here [X.here.top, hx, hb, hdg, hmeth', hr, hnr]
  (try refine ⟨rfl, ?_⟩); (try refine ⟨rfl, ?_⟩)
  first | (intro acts; rw [hret _ acts rfl rfl rfl]) | rw [hret _ _ rfl rfl rfl]
  exact Steps.refl _
end GR
