
/-- the code by which the law names what was thrown -/
def kc (z : Option String) : Int32 := match z with
  | none => 0
  | some E => if E = x_UOE then 2 else if E = x_ISE then 3 else 1
theorem kc_IAE : kc (some x_IAE) = 1 := by decide +kernel
theorem kc_NSE : kc (some x_NSE) = 1 := by decide +kernel
theorem kc_UOE : kc (some x_UOE) = 2 := by decide +kernel
theorem kc_ISE : kc (some x_ISE) = 3 := by decide +kernel
abbrev tys3 (cI cZ cL : ClassId) : List (ClassId × FieldType) := [(cI, .int), (cZ, .boolean), (cL, .long)]
abbrev wO (o : Nat) (cL : ClassId) (f : Nat → Int64) : va_W := [(o, .inl (cL, 1, .inr (.inl f)))]
section GH
variable {p : Program} {l : Launch} {e : Env} {R : Room} {s : State} {m : MethodId} {args : Array Value} {below : List Frame} {meth : Method} {c : Code} {H : Heap} {locs : List Loc} {cells slots : Nat} {Q : State → Prop}
variable {bytes : ByteArray} {maxL index n mc ms : Nat} {own C : String} {y : MethodName} {ret : Option FieldType} {rm : Room}
theorem g_cwX (hg : ∀ w ∈ gtbl, w.before args s = true) (h : g_site own C index y bytes maxL ret n) (hrc : rm.cells = mc) (hrs : rm.slots = ms) (hR : rm.frames + 1 ≤ R.frames ∧ 8 + (maxL + 11) + rm.locals ≤ R.locals) :
    CallW R s args own C index y bytes maxL ret (.code y bytes maxL ret :: gtbl) rm mc ms n := by
  obtain ⟨h1, h2, h3, h4, h5, h6⟩ := h
  refine cwV n hg (gt_goodIn (fun _ h => h) (fun q hq => ?_)) rfl hrc hrs h6 hR
  rcases List.mem_append.mp hq with h | h
  · simp only [List.mem_cons, List.not_mem_nil, or_false] at h
    rcases h with rfl | rfl | rfl | rfl
    · exact h1
    · exact h2
    · exact h3
    · exact h4
  · rcases List.mem_cons.mp h with rfl | h
    · exact h5
    · exact h
theorem g_cwW {hh : List (Nat × Nat × Nat × Nat)} (hg : ∀ w ∈ gtbl, w.before args s = true) (h1 : .methodLink own index y ∈ gtbl) (h2 : .static y ∈ gtbl) (h3 : .initialized y.cls ∈ gtbl) (h4 : .codeWith y bytes maxL ret hh ∈ gtbl) (h5 : y.cls ≠ "java/lang/invoke/MethodHandle" ∧ y.cls ≠ "java/lang/invoke/VarHandle" ∧ (parseMethodDescriptor y.desc).map (fun d => d.parameters.length) = some n) (hrc : rm.cells = mc) (hrs : rm.slots = ms) (hR : rm.frames + 1 ≤ R.frames ∧ 8 + (maxL + 11) + rm.locals ≤ R.locals) :
    vx_CSW R s args own index y bytes maxL ret hh (.codeWith y bytes maxL ret hh :: gtbl) rm mc ms n := by
  refine vx_cwSW n hg (gt_goodIn (fun _ h => h) (fun q hq => ?_)) rfl hrc hrs h5 hR
  rcases List.mem_append.mp hq with h | h
  · simp only [List.mem_cons, List.not_mem_nil, or_false] at h
    rcases h with rfl | rfl | rfl
    · exact h1
    · exact h2
    · exact h3
  · rcases List.mem_cons.mp h with rfl | h
    · exact h4
    · exact h
end GH
theorem kt_of {A : Nat → Prop} {sa : Nat → Nat} {s : State} {H : Heap} {args : Array Value} (h : xe A sa s H) {w : Cond} (hw : w ∈ x_bad) : w.before args s = true := va_Nw.use (x_bad_on w hw) (h.2.2.1 w hw)
theorem xe_call {A : Nat → Prop} {sa : Nat → Nat} {s U : State} {H : Heap} {locs : List Loc} (h : xe A sa s s.heap) (hS : va_S A s.heap H locs) (hU : U.heap = H) (hW : s.WarmedH U.vm) : xe A sa U U.heap := by
  rw [hU]
  exact xe_warm hW (xe_kept h hS.2.1)
theorem va_Nc_of {E nm : String} {s : State} {args : Array Value} (h : (Cond.not (.castable E nm)).before args s = true) : va_Nc E nm s := va_Nc.of h

set_option maxHeartbeats 4000000 in
set_option maxRecDepth 100000 in
theorem c_L_poke (l : Launch) (hst : l.stackTraces = false) (dC : Nat → ClassId) (dI : Nat → Nat → Nat) (cI cZ : ClassId) (x : Nat → Nat) (hi : g_inj 13 x) (sa : Nat → Nat) (u : BS) (p0 : Int32) (p1 : Int32) (hE : ∀ E, (f_X6_poke u p0 p1).1 = some E → E = x_IAE) : Met l yL_poke (.codeWith yL_poke cL_poke 4 (some .int) [(0, 6, 9, 13)] :: gtbl) { frames := 7, cells := 1, slots := 6, locals := 112 } (va_Pc [.ref (x 0), .int p0, .int p1] (fun U => va_P (dC, dI) vwCl (wB x cI cZ u) U.heap ∧ va_K (dC, dI) vwCl (tysW cI cZ) U ∧ xe (g_bA 13 x) sa U U.heap)) (va_Qi (fun r (v : BS) => r = kc (f_X6_poke u p0 p1).1 ∧ v = (f_X6_poke u p0 p1).2.2) (fun v t => va_P (dC, dI) vwCl (wB x cI cZ v) t.heap) (g_bA 13 x)) 1 6 (g_bA 13 x) := by
  refine va_MetW (hh := [(0, 6, 9, 13)]) (cc := cL_poke) (maxL := 4) (ret := (some .int)) (by decide) rfl ?_
  intro p e s m args below meth c s₁ B hml hv
  obtain ⟨rfl, hP, hK, hxe⟩ := hv
  have hx := B.exec
  have hb := B.bytes
  have hr := B.returns
  have hts := atoms_spec (ws := .codeWith yL_poke cL_poke 4 (some .int) [(0, 6, 9, 13)] :: gtbl) B.pre
  have hg : ∀ w ∈ gtbl, w.before _ s = true := fun w h => hts w (List.mem_cons_of_mem _ h)
  have hown : s.vm.findClass RL = some m.cls := findClass_of_methodNamed B.named
  have hlocks := B.notSynchronized
  have htab : c.exceptionTable.toList = tableOf [(0, 6, 9, 13)] := vx_table (x := yL_poke) B (hts _ List.mem_cons_self)
  have hS : va_S (g_bA 13 x) s.heap s.heap [] := va_S.rf
  have hK2 : va_K (dC, dI) vwCl (tysW cI cZ) s := hK.sub [0, 1] rfl
  have hl := lv_entry ([.ref (x 0), .int p0, .int p1]) (n := 4) (Nat.le_of_ble_eq_true rfl)
  rw [lg_entry_eq]
  generalize (lg_sl ([.ref (x 0), .int p0, .int p1]) ++ List.replicate (4 - (lg_sl ([.ref (x 0), .int p0, .int p1])).length) Slot.unset).toArray = ls at hl ⊢
  have hl : lv_has ls 4 [(0, .ref (x 0)), (1, .int p0), (2, .int p1)] := hl
  obtain ⟨F, hF⟩ : ∃ F, f_X6_poke u p0 p1 = F := ⟨_, rfl⟩
  rw [hF] at hE
  rw [hF]
  refine lv_aload_n hx hb dL_poke_0 rfl (lv_at hl 0 rfl) ?_
  refine lv_iload_n hx hb dL_poke_1 rfl (lv_at hl 1 rfl) ?_
  refine lv_iload_n hx hb dL_poke_2 rfl (lv_at hl 2 rfl) ?_
  refine vx_callv (vx_runV (As := [.int p0, .int p1]) (rest := []) ⟨hx, hb, hml, hown, hg⟩ (c_X6_poke l hst dC dI cI cZ x hi sa u p0 p1) (g_cwX hg cs_L_7 rfl rfl ⟨Nat.le_of_ble_eq_true rfl, Nat.le_of_ble_eq_true rfl⟩) ⟨g_blindX, va_recv hK hP (ci := 6) (q0 := 0) rfl rfl, fun U hU hW => ⟨rfl, by rw [hU]; exact hP, va_K.moved hW.alike hK2, xe_call hxe hS hU hW⟩⟩ rfl rfl hl.1 rfl (lv_room (Nat.le_of_ble_eq_true rfl)) dL_poke_3 ⟨Nat.le_of_ble_eq_true rfl, Nat.le_of_ble_eq_true rfl⟩) hS (fun q _ h => h) (fun q h => h) (fun q _ h => h) (fun E ce q9 v t H1 locs1 ht hvm _ hB hz hk hS1 hce hcv hcl => ?_) (fun v t H1 locs1 ht hvm hw hB hz hk hS1 => ?_)
  · have hP1 : va_P (dC, dI) vwCl (wB x cI cZ v) H1 := by rw [← ht]; exact hB.2
    have hB1 := hB.1.trans hF
    have hEE := hE E (by rw [← hB1])
    subst hEE
    refine vx_catch (own := RL) (name := x_IAE) (E := x_IAE) hown [] ⟨0, 6, 9, 13⟩ [] htab (fun z hz => by cases hz) (by decide) (by decide) (hg _ kk_L_13) (kt_of hxe (by decide +kernel)) hce hcv hcl ?_
    refine lv_astore_n hx hb dL_poke_9 rfl hl (by decide) rfl (fun ls hl => ?_)
    refine lv_iconst (v := 1) hx hb dL_poke_10 (by decide) ?_
    exact W.iret hx hb hr (fun t2 ht2 hW => ⟨⟨1, v, rfl, ⟨by rw [← hB1]; exact kc_IAE.symm, by rw [← hB1]⟩, by show va_P (dC, dI) vwCl (wB x cI cZ v) t2.heap; rw [ht2]; exact hP1⟩, hS1.F ht2⟩) hS1.2.2 dL_poke_11 hlocks
  · have hP1 : va_P (dC, dI) vwCl (wB x cI cZ v) H1 := by rw [← ht]; exact hB
    have hw := hw.trans hF
    refine lv_goto (tgt := 12) hx hb dL_poke_6 (by decide) ?_
    refine lv_iconst (v := 0) hx hb dL_poke_12 (by decide) ?_
    exact W.iret hx hb hr (fun t2 ht2 hW => ⟨⟨0, v, rfl, ⟨by rw [← hw]; rfl, by rw [← hw]⟩, by show va_P (dC, dI) vwCl (wB x cI cZ v) t2.heap; rw [ht2]; exact hP1⟩, hS1.F ht2⟩) hS1.2.2 dL_poke_13 hlocks

set_option maxHeartbeats 4000000 in
set_option maxRecDepth 100000 in
theorem c_L_set (l : Launch) (hst : l.stackTraces = false) (dC : Nat → ClassId) (dI : Nat → Nat → Nat) (cI cZ : ClassId) (x : Nat → Nat) (hi : g_inj 13 x) (sa : Nat → Nat) (u : BS) (p0 : Int32) (p1 : Int32) (hE : ∀ E, (f_X6_set u p0 p1).1 = some E → E = x_IAE) : Met l yL_set (.codeWith yL_set cL_set 4 (some .int) [(0, 6, 9, 13)] :: gtbl) { frames := 7, cells := 1, slots := 6, locals := 112 } (va_Pc [.ref (x 0), .int p0, .int p1] (fun U => va_P (dC, dI) vwCl (wB x cI cZ u) U.heap ∧ va_K (dC, dI) vwCl (tysW cI cZ) U ∧ xe (g_bA 13 x) sa U U.heap)) (va_Qi (fun r (v : BS) => r = kc (f_X6_set u p0 p1).1 ∧ v = (f_X6_set u p0 p1).2.2) (fun v t => va_P (dC, dI) vwCl (wB x cI cZ v) t.heap) (g_bA 13 x)) 1 6 (g_bA 13 x) := by
  refine va_MetW (hh := [(0, 6, 9, 13)]) (cc := cL_set) (maxL := 4) (ret := (some .int)) (by decide) rfl ?_
  intro p e s m args below meth c s₁ B hml hv
  obtain ⟨rfl, hP, hK, hxe⟩ := hv
  have hx := B.exec
  have hb := B.bytes
  have hr := B.returns
  have hts := atoms_spec (ws := .codeWith yL_set cL_set 4 (some .int) [(0, 6, 9, 13)] :: gtbl) B.pre
  have hg : ∀ w ∈ gtbl, w.before _ s = true := fun w h => hts w (List.mem_cons_of_mem _ h)
  have hown : s.vm.findClass RL = some m.cls := findClass_of_methodNamed B.named
  have hlocks := B.notSynchronized
  have htab : c.exceptionTable.toList = tableOf [(0, 6, 9, 13)] := vx_table (x := yL_set) B (hts _ List.mem_cons_self)
  have hS : va_S (g_bA 13 x) s.heap s.heap [] := va_S.rf
  have hK2 : va_K (dC, dI) vwCl (tysW cI cZ) s := hK.sub [0, 1] rfl
  have hl := lv_entry ([.ref (x 0), .int p0, .int p1]) (n := 4) (Nat.le_of_ble_eq_true rfl)
  rw [lg_entry_eq]
  generalize (lg_sl ([.ref (x 0), .int p0, .int p1]) ++ List.replicate (4 - (lg_sl ([.ref (x 0), .int p0, .int p1])).length) Slot.unset).toArray = ls at hl ⊢
  have hl : lv_has ls 4 [(0, .ref (x 0)), (1, .int p0), (2, .int p1)] := hl
  obtain ⟨F, hF⟩ : ∃ F, f_X6_set u p0 p1 = F := ⟨_, rfl⟩
  rw [hF] at hE
  rw [hF]
  refine lv_aload_n hx hb dL_set_0 rfl (lv_at hl 0 rfl) ?_
  refine lv_iload_n hx hb dL_set_1 rfl (lv_at hl 1 rfl) ?_
  refine lv_iload_n hx hb dL_set_2 rfl (lv_at hl 2 rfl) ?_
  refine vx_callv (vx_runV (As := [.int p0, .int p1]) (rest := []) ⟨hx, hb, hml, hown, hg⟩ (c_X6_set l hst dC dI cI cZ x hi sa u p0 p1) (g_cwX hg cs_L_21 rfl rfl ⟨Nat.le_of_ble_eq_true rfl, Nat.le_of_ble_eq_true rfl⟩) ⟨g_blindX, va_recv hK hP (ci := 6) (q0 := 0) rfl rfl, fun U hU hW => ⟨rfl, by rw [hU]; exact hP, va_K.moved hW.alike hK2, xe_call hxe hS hU hW⟩⟩ rfl rfl hl.1 rfl (lv_room (Nat.le_of_ble_eq_true rfl)) dL_set_3 ⟨Nat.le_of_ble_eq_true rfl, Nat.le_of_ble_eq_true rfl⟩) hS (fun q _ h => h) (fun q h => h) (fun q _ h => h) (fun E ce q9 v t H1 locs1 ht hvm _ hB hz hk hS1 hce hcv hcl => ?_) (fun v t H1 locs1 ht hvm hw hB hz hk hS1 => ?_)
  · have hP1 : va_P (dC, dI) vwCl (wB x cI cZ v) H1 := by rw [← ht]; exact hB.2
    have hB1 := hB.1.trans hF
    have hEE := hE E (by rw [← hB1])
    subst hEE
    refine vx_catch (own := RL) (name := x_IAE) (E := x_IAE) hown [] ⟨0, 6, 9, 13⟩ [] htab (fun z hz => by cases hz) (by decide) (by decide) (hg _ kk_L_13) (kt_of hxe (by decide +kernel)) hce hcv hcl ?_
    refine lv_astore_n hx hb dL_set_9 rfl hl (by decide) rfl (fun ls hl => ?_)
    refine lv_iconst (v := 1) hx hb dL_set_10 (by decide) ?_
    exact W.iret hx hb hr (fun t2 ht2 hW => ⟨⟨1, v, rfl, ⟨by rw [← hB1]; exact kc_IAE.symm, by rw [← hB1]⟩, by show va_P (dC, dI) vwCl (wB x cI cZ v) t2.heap; rw [ht2]; exact hP1⟩, hS1.F ht2⟩) hS1.2.2 dL_set_11 hlocks
  · have hP1 : va_P (dC, dI) vwCl (wB x cI cZ v) H1 := by rw [← ht]; exact hB
    have hw := hw.trans hF
    refine lv_goto (tgt := 12) hx hb dL_set_6 (by decide) ?_
    refine lv_iconst (v := 0) hx hb dL_set_12 (by decide) ?_
    exact W.iret hx hb hr (fun t2 ht2 hW => ⟨⟨0, v, rfl, ⟨by rw [← hw]; rfl, by rw [← hw]⟩, by show va_P (dC, dI) vwCl (wB x cI cZ v) t2.heap; rw [ht2]; exact hP1⟩, hS1.F ht2⟩) hS1.2.2 dL_set_13 hlocks

set_option maxHeartbeats 4000000 in
set_option maxRecDepth 100000 in
theorem c_L_key (l : Launch) (hst : l.stackTraces = false) (dC : Nat → ClassId) (dI : Nat → Nat → Nat) (cI cZ : ClassId) (x : Nat → Nat) (hi : g_inj 13 x) (sa : Nat → Nat) (u : BS) (p0 : Int32) (p1 : Int32) (hE : ∀ E, (f_X6_key u p0 p1).1 = some E → E = x_IAE) : Met l yL_key (.codeWith yL_key cL_key 4 (some .int) [(0, 6, 9, 13)] :: gtbl) { frames := 7, cells := 1, slots := 6, locals := 112 } (va_Pc [.ref (x 0), .int p0, .int p1] (fun U => va_P (dC, dI) vwCl (wB x cI cZ u) U.heap ∧ va_K (dC, dI) vwCl (tysW cI cZ) U ∧ xe (g_bA 13 x) sa U U.heap)) (va_Qi (fun r (v : BS) => r = kc (f_X6_key u p0 p1).1 ∧ v = (f_X6_key u p0 p1).2.2) (fun v t => va_P (dC, dI) vwCl (wB x cI cZ v) t.heap) (g_bA 13 x)) 1 6 (g_bA 13 x) := by
  refine va_MetW (hh := [(0, 6, 9, 13)]) (cc := cL_key) (maxL := 4) (ret := (some .int)) (by decide) rfl ?_
  intro p e s m args below meth c s₁ B hml hv
  obtain ⟨rfl, hP, hK, hxe⟩ := hv
  have hx := B.exec
  have hb := B.bytes
  have hr := B.returns
  have hts := atoms_spec (ws := .codeWith yL_key cL_key 4 (some .int) [(0, 6, 9, 13)] :: gtbl) B.pre
  have hg : ∀ w ∈ gtbl, w.before _ s = true := fun w h => hts w (List.mem_cons_of_mem _ h)
  have hown : s.vm.findClass RL = some m.cls := findClass_of_methodNamed B.named
  have hlocks := B.notSynchronized
  have htab : c.exceptionTable.toList = tableOf [(0, 6, 9, 13)] := vx_table (x := yL_key) B (hts _ List.mem_cons_self)
  have hS : va_S (g_bA 13 x) s.heap s.heap [] := va_S.rf
  have hK2 : va_K (dC, dI) vwCl (tysW cI cZ) s := hK.sub [0, 1] rfl
  have hl := lv_entry ([.ref (x 0), .int p0, .int p1]) (n := 4) (Nat.le_of_ble_eq_true rfl)
  rw [lg_entry_eq]
  generalize (lg_sl ([.ref (x 0), .int p0, .int p1]) ++ List.replicate (4 - (lg_sl ([.ref (x 0), .int p0, .int p1])).length) Slot.unset).toArray = ls at hl ⊢
  have hl : lv_has ls 4 [(0, .ref (x 0)), (1, .int p0), (2, .int p1)] := hl
  obtain ⟨F, hF⟩ : ∃ F, f_X6_key u p0 p1 = F := ⟨_, rfl⟩
  rw [hF] at hE
  rw [hF]
  refine lv_aload_n hx hb dL_key_0 rfl (lv_at hl 0 rfl) ?_
  refine lv_iload_n hx hb dL_key_1 rfl (lv_at hl 1 rfl) ?_
  refine lv_iload_n hx hb dL_key_2 rfl (lv_at hl 2 rfl) ?_
  refine vx_callv (vx_runV (As := [.int p0, .int p1]) (rest := []) ⟨hx, hb, hml, hown, hg⟩ (c_X6_key l hst dC dI cI cZ x hi sa u p0 p1) (g_cwX hg cs_L_24 rfl rfl ⟨Nat.le_of_ble_eq_true rfl, Nat.le_of_ble_eq_true rfl⟩) ⟨g_blindX, va_recv hK hP (ci := 6) (q0 := 0) rfl rfl, fun U hU hW => ⟨rfl, by rw [hU]; exact hP, va_K.moved hW.alike hK2, xe_call hxe hS hU hW⟩⟩ rfl rfl hl.1 rfl (lv_room (Nat.le_of_ble_eq_true rfl)) dL_key_3 ⟨Nat.le_of_ble_eq_true rfl, Nat.le_of_ble_eq_true rfl⟩) hS (fun q _ h => h) (fun q h => h) (fun q _ h => h) (fun E ce q9 v t H1 locs1 ht hvm _ hB hz hk hS1 hce hcv hcl => ?_) (fun v t H1 locs1 ht hvm hw hB hz hk hS1 => ?_)
  · have hP1 : va_P (dC, dI) vwCl (wB x cI cZ v) H1 := by rw [← ht]; exact hB.2
    have hB1 := hB.1.trans hF
    have hEE := hE E (by rw [← hB1])
    subst hEE
    refine vx_catch (own := RL) (name := x_IAE) (E := x_IAE) hown [] ⟨0, 6, 9, 13⟩ [] htab (fun z hz => by cases hz) (by decide) (by decide) (hg _ kk_L_13) (kt_of hxe (by decide +kernel)) hce hcv hcl ?_
    refine lv_astore_n hx hb dL_key_9 rfl hl (by decide) rfl (fun ls hl => ?_)
    refine lv_iconst (v := 1) hx hb dL_key_10 (by decide) ?_
    exact W.iret hx hb hr (fun t2 ht2 hW => ⟨⟨1, v, rfl, ⟨by rw [← hB1]; exact kc_IAE.symm, by rw [← hB1]⟩, by show va_P (dC, dI) vwCl (wB x cI cZ v) t2.heap; rw [ht2]; exact hP1⟩, hS1.F ht2⟩) hS1.2.2 dL_key_11 hlocks
  · have hP1 : va_P (dC, dI) vwCl (wB x cI cZ v) H1 := by rw [← ht]; exact hB
    have hw := hw.trans hF
    refine lv_goto (tgt := 12) hx hb dL_key_6 (by decide) ?_
    refine lv_iconst (v := 0) hx hb dL_key_12 (by decide) ?_
    exact W.iret hx hb hr (fun t2 ht2 hW => ⟨⟨0, v, rfl, ⟨by rw [← hw]; rfl, by rw [← hw]⟩, by show va_P (dC, dI) vwCl (wB x cI cZ v) t2.heap; rw [ht2]; exact hP1⟩, hS1.F ht2⟩) hS1.2.2 dL_key_13 hlocks

set_option maxHeartbeats 4000000 in
set_option maxRecDepth 100000 in
theorem c_L_start (l : Launch) (hst : l.stackTraces = false) (dC : Nat → ClassId) (dI : Nat → Nat → Nat) (cI cZ : ClassId) (x : Nat → Nat) (hi : g_inj 13 x) (sa : Nat → Nat) (u : BS) (p0 : Int32) (hE : ∀ E, (f_X6_start u p0).1 = some E → E = x_IAE) : Met l yL_start (.codeWith yL_start cL_start 3 (some .int) [(0, 5, 8, 13)] :: gtbl) { frames := 7, cells := 1, slots := 6, locals := 111 } (va_Pc [.ref (x 0), .int p0] (fun U => va_P (dC, dI) vwCl (wB x cI cZ u) U.heap ∧ va_K (dC, dI) vwCl (tysW cI cZ) U ∧ xe (g_bA 13 x) sa U U.heap)) (va_Qi (fun r (v : BS) => r = kc (f_X6_start u p0).1 ∧ v = (f_X6_start u p0).2.2) (fun v t => va_P (dC, dI) vwCl (wB x cI cZ v) t.heap) (g_bA 13 x)) 1 6 (g_bA 13 x) := by
  refine va_MetW (hh := [(0, 5, 8, 13)]) (cc := cL_start) (maxL := 3) (ret := (some .int)) (by decide) rfl ?_
  intro p e s m args below meth c s₁ B hml hv
  obtain ⟨rfl, hP, hK, hxe⟩ := hv
  have hx := B.exec
  have hb := B.bytes
  have hr := B.returns
  have hts := atoms_spec (ws := .codeWith yL_start cL_start 3 (some .int) [(0, 5, 8, 13)] :: gtbl) B.pre
  have hg : ∀ w ∈ gtbl, w.before _ s = true := fun w h => hts w (List.mem_cons_of_mem _ h)
  have hown : s.vm.findClass RL = some m.cls := findClass_of_methodNamed B.named
  have hlocks := B.notSynchronized
  have htab : c.exceptionTable.toList = tableOf [(0, 5, 8, 13)] := vx_table (x := yL_start) B (hts _ List.mem_cons_self)
  have hS : va_S (g_bA 13 x) s.heap s.heap [] := va_S.rf
  have hK2 : va_K (dC, dI) vwCl (tysW cI cZ) s := hK.sub [0, 1] rfl
  have hl := lv_entry ([.ref (x 0), .int p0]) (n := 3) (Nat.le_of_ble_eq_true rfl)
  rw [lg_entry_eq]
  generalize (lg_sl ([.ref (x 0), .int p0]) ++ List.replicate (3 - (lg_sl ([.ref (x 0), .int p0])).length) Slot.unset).toArray = ls at hl ⊢
  have hl : lv_has ls 3 [(0, .ref (x 0)), (1, .int p0)] := hl
  obtain ⟨F, hF⟩ : ∃ F, f_X6_start u p0 = F := ⟨_, rfl⟩
  rw [hF] at hE
  rw [hF]
  refine lv_aload_n hx hb dL_start_0 rfl (lv_at hl 0 rfl) ?_
  refine lv_iload_n hx hb dL_start_1 rfl (lv_at hl 1 rfl) ?_
  refine vx_callv (vx_runV (As := [.int p0]) (rest := []) ⟨hx, hb, hml, hown, hg⟩ (c_X6_start l hst dC dI cI cZ x hi sa u p0) (g_cwX hg cs_L_48 rfl rfl ⟨Nat.le_of_ble_eq_true rfl, Nat.le_of_ble_eq_true rfl⟩) ⟨g_blindX, va_recv hK hP (ci := 6) (q0 := 0) rfl rfl, fun U hU hW => ⟨rfl, by rw [hU]; exact hP, va_K.moved hW.alike hK2, xe_call hxe hS hU hW⟩⟩ rfl rfl hl.1 rfl (lv_room (Nat.le_of_ble_eq_true rfl)) dL_start_2 ⟨Nat.le_of_ble_eq_true rfl, Nat.le_of_ble_eq_true rfl⟩) hS (fun q _ h => h) (fun q h => h) (fun q _ h => h) (fun E ce q9 v t H1 locs1 ht hvm _ hB hz hk hS1 hce hcv hcl => ?_) (fun v t H1 locs1 ht hvm hw hB hz hk hS1 => ?_)
  · have hP1 : va_P (dC, dI) vwCl (wB x cI cZ v) H1 := by rw [← ht]; exact hB.2
    have hB1 := hB.1.trans hF
    have hEE := hE E (by rw [← hB1])
    subst hEE
    refine vx_catch (own := RL) (name := x_IAE) (E := x_IAE) hown [] ⟨0, 5, 8, 13⟩ [] htab (fun z hz => by cases hz) (by decide) (by decide) (hg _ kk_L_13) (kt_of hxe (by decide +kernel)) hce hcv hcl ?_
    refine lv_astore_n hx hb dL_start_8 rfl hl (by decide) rfl (fun ls hl => ?_)
    refine lv_iconst (v := 1) hx hb dL_start_9 (by decide) ?_
    exact W.iret hx hb hr (fun t2 ht2 hW => ⟨⟨1, v, rfl, ⟨by rw [← hB1]; exact kc_IAE.symm, by rw [← hB1]⟩, by show va_P (dC, dI) vwCl (wB x cI cZ v) t2.heap; rw [ht2]; exact hP1⟩, hS1.F ht2⟩) hS1.2.2 dL_start_10 hlocks
  · have hP1 : va_P (dC, dI) vwCl (wB x cI cZ v) H1 := by rw [← ht]; exact hB
    have hw := hw.trans hF
    refine lv_goto (tgt := 11) hx hb dL_start_5 (by decide) ?_
    refine lv_iconst (v := 0) hx hb dL_start_11 (by decide) ?_
    exact W.iret hx hb hr (fun t2 ht2 hW => ⟨⟨0, v, rfl, ⟨by rw [← hw]; rfl, by rw [← hw]⟩, by show va_P (dC, dI) vwCl (wB x cI cZ v) t2.heap; rw [ht2]; exact hP1⟩, hS1.F ht2⟩) hS1.2.2 dL_start_12 hlocks

set_option maxHeartbeats 4000000 in
set_option maxRecDepth 100000 in
theorem c_L_cpu (l : Launch) (hst : l.stackTraces = false) (dC : Nat → ClassId) (dI : Nat → Nat → Nat) (cI cZ cL : ClassId) (x : Nat → Nat) (hi : g_inj 13 x) (sa : Nat → Nat) (u : BS) (o : Nat) (ho : ¬ g_bA 13 x o) (fo : Nat → Int64) (p0 : Int32) (hE : ∀ E, (f_X6_cpu u p0).1 = some E → E = x_NSE) : Met l yL_cpu (.codeWith yL_cpu cL_cpu 4 (some .int) [(0, 9, 12, 19)] :: gtbl) { frames := 7, cells := 1, slots := 6, locals := 111 } (va_Pc [.ref (x 0), .int p0, .ref o] (fun U => va_P (dC, dI) vwCl (wB x cI cZ u) U.heap ∧ va_K (dC, dI) vwCl (tys3 cI cZ cL) U ∧ xe (g_bA 13 x) sa U U.heap ∧ va_P (dC, dI) vwCl (wO o cL fo) U.heap ∧ True)) (va_Qi (fun r (v : BS × (Nat → Int64)) => r = kc (f_X6_cpu u p0).1 ∧ v.1 = (f_X6_cpu u p0).2.2 ∧ ((f_X6_cpu u p0).1 = none → v.2 0 = (f_X6_cpu u p0).2.1.toInt64)) (fun v t => va_P (dC, dI) vwCl (wB x cI cZ v.1) t.heap ∧ va_P (dC, dI) vwCl (wO o cL v.2) t.heap) (fun q => g_bA 13 x q ∨ q = o)) 1 6 (fun q => g_bA 13 x q ∨ q = o) := by
  refine va_MetW (hh := [(0, 9, 12, 19)]) (cc := cL_cpu) (maxL := 4) (ret := (some .int)) (by decide) rfl ?_
  intro p e s m args below meth c s₁ B hml hv
  obtain ⟨rfl, hP, hK, hxe, hO, -⟩ := hv
  have hx := B.exec
  have hb := B.bytes
  have hr := B.returns
  have hts := atoms_spec (ws := .codeWith yL_cpu cL_cpu 4 (some .int) [(0, 9, 12, 19)] :: gtbl) B.pre
  have hg : ∀ w ∈ gtbl, w.before _ s = true := fun w h => hts w (List.mem_cons_of_mem _ h)
  have hown : s.vm.findClass RL = some m.cls := findClass_of_methodNamed B.named
  have hlocks := B.notSynchronized
  have htab : c.exceptionTable.toList = tableOf [(0, 9, 12, 19)] := vx_table (x := yL_cpu) B (hts _ List.mem_cons_self)
  have hS : va_S (g_bA 13 x) s.heap s.heap [] := va_S.rf
  have hK2 : va_K (dC, dI) vwCl (tysW cI cZ) s := hK.sub [0, 1] rfl
  have hl := lv_entry ([.ref (x 0), .int p0, .ref o]) (n := 4) (Nat.le_of_ble_eq_true rfl)
  rw [lg_entry_eq]
  generalize (lg_sl ([.ref (x 0), .int p0, .ref o]) ++ List.replicate (4 - (lg_sl ([.ref (x 0), .int p0, .ref o])).length) Slot.unset).toArray = ls at hl ⊢
  have hl : lv_has ls 4 [(0, .ref (x 0)), (1, .int p0), (2, .ref o)] := hl
  obtain ⟨F, hF⟩ : ∃ F, f_X6_cpu u p0 = F := ⟨_, rfl⟩
  rw [hF] at hE
  rw [hF]
  refine lv_aload_n hx hb dL_cpu_0 rfl (lv_at hl 2 rfl) ?_
  refine lv_iconst (v := 0) hx hb dL_cpu_1 (by decide) ?_
  refine lv_aload_n hx hb dL_cpu_2 rfl (lv_at hl 0 rfl) ?_
  refine lv_iload_n hx hb dL_cpu_3 rfl (lv_at hl 1 rfl) ?_
  refine vx_calli (vx_runV (As := [.int p0]) (rest := [.int 0, .ref o]) ⟨hx, hb, hml, hown, hg⟩ (c_X6_cpu l hst dC dI cI cZ x hi sa u p0) (g_cwX hg cs_L_15 rfl rfl ⟨Nat.le_of_ble_eq_true rfl, Nat.le_of_ble_eq_true rfl⟩) ⟨g_blindX, va_recv hK hP (ci := 6) (q0 := 0) rfl rfl, fun U hU hW => ⟨rfl, by rw [hU]; exact hP, va_K.moved hW.alike hK2, xe_call hxe hS hU hW⟩⟩ rfl rfl hl.1 rfl (lv_room (Nat.le_of_ble_eq_true rfl)) dL_cpu_4 ⟨Nat.le_of_ble_eq_true rfl, Nat.le_of_ble_eq_true rfl⟩) hS (fun q _ h => h) (fun q h => h) (fun q _ h => h) (fun E ce q9 v t H1 locs1 ht hvm _ hB hz hk hS1 hce hcv hcl => ?_) (fun r v t H1 locs1 ht hvm hw hB hz hk hS1 => ?_)
  · have hP1 : va_P (dC, dI) vwCl (wB x cI cZ v) H1 := by rw [← ht]; exact hB.2
    have hO1 : va_P (dC, dI) vwCl (wO o cL fo) H1 := hO.kept (fun k q hk2 => by
      have hq : q.1 = o := by
        match k, hk2 with
        | 0, hk2 => cases hk2; rfl
      rw [hq]
      exact hk o (by have := (hO 0 _ rfl).lt; exact this) ho)
    have hS3 : va_S (fun q => g_bA 13 x q ∨ q = o) s.heap H1 locs1 := ⟨hS1.1, fun q h1 h2 => hS1.2.1 q h1 (fun h => h2 (Or.inl h)), fun z hz => Or.inl (hS1.2.2 z hz)⟩
    have hB1 := hB.1.trans hF
    have hEE := hE E (by rw [← hB1])
    subst hEE
    refine vx_catch (own := RL) (name := x_NSE) (E := x_NSE) hown [] ⟨0, 9, 12, 19⟩ [] htab (fun z hz => by cases hz) (by decide) (by decide) (hg _ kk_L_19) (kt_of hxe (by decide +kernel)) hce hcv hcl ?_
    refine lv_astore_n hx hb dL_cpu_12 rfl hl (by decide) rfl (fun ls hl => ?_)
    refine lv_iconst (v := 1) hx hb dL_cpu_13 (by decide) ?_
    exact W.iret hx hb hr (fun t2 ht2 hW => ⟨⟨1, (v, fo), rfl, ⟨by rw [← hB1]; exact kc_NSE.symm, by rw [← hB1], fun h => by rw [← hB1] at h; cases h⟩, by show va_P (dC, dI) vwCl (wB x cI cZ v) t2.heap; rw [ht2]; exact hP1, by show va_P (dC, dI) vwCl (wO o cL fo) t2.heap; rw [ht2]; exact hO1⟩, hS3.F ht2⟩) hS3.2.2 dL_cpu_14 hlocks
  · have hP1 : va_P (dC, dI) vwCl (wB x cI cZ v) H1 := by rw [← ht]; exact hB
    have hw := hw.trans hF
    have hO1 : va_P (dC, dI) vwCl (wO o cL fo) H1 := hO.kept (fun k q hk2 => by
      have hq : q.1 = o := by
        match k, hk2 with
        | 0, hk2 => cases hk2; rfl
      rw [hq]
      exact hk o (by have := (hO 0 _ rfl).lt; exact this) ho)
    have hS3 : va_S (fun q => g_bA 13 x q ∨ q = o) s.heap H1 locs1 := ⟨hS1.1, fun q h1 h2 => hS1.2.1 q h1 (fun h => h2 (Or.inl h)), fun z hz => Or.inl (hS1.2.2 z hz)⟩
    have hDo : va_D (fun q => g_bA 13 x q ∨ q = o) (wO o cL fo) := ⟨fun i j a b ha hb2 _ => by
      have h1 := (List.getElem?_eq_some_iff.mp ha).1
      have h2 := (List.getElem?_eq_some_iff.mp hb2).1
      simp only [wO, List.length_cons, List.length_nil] at h1 h2
      omega, fun k q hk2 => by
      match k, hk2 with
      | 0, hk2 => cases hk2; exact Or.inr rfl⟩
    refine lv_i2l hx hb dL_cpu_7 rfl ?_
    have hDw : va_D (fun q => g_bA 13 x q ∨ q = o) (wB x cI cZ v) := (wB_D hi v).weaken (fun _ _ _ h => Or.inl h)
    have hDa : va_D (fun q => g_bA 13 x q ∨ q = o) (wO o cL fo ++ wB x cI cZ v) := hDo.app hDw (fun i j a b ha hb2 hab => ho (by
      have h1 : a.1 = o := by
        match i, ha with
        | 0, ha => cases ha; rfl
      rw [← h1, hab]
      exact (wB_D hi v).2 j b hb2))
    have hPa : va_P (dC, dI) vwCl (wO o cL fo ++ wB x cI cZ v) H1 := hO1.app hP1
    refine va_last (D := (dC, dI)) hx hb hK hPa hDa hS3 0 2 rfl rfl (i := 0) (by unfold vp_in; decide) dL_cpu_8 (fun H2 locs2 hPb _ hS4 => ?_)
    have hPb : va_P (dC, dI) vwCl (wO o cL (vp_updL fo 0 r.toInt64) ++ wB x cI cZ v) H2 := hPb
    have hO2 : va_P (dC, dI) vwCl (wO o cL (vp_updL fo 0 r.toInt64)) H2 := hPb.sub [0] rfl
    have hP2 : va_P (dC, dI) vwCl (wB x cI cZ v) H2 := fun k q hk2 => hPb (k + 1) q hk2
    refine lv_goto (tgt := 15) hx hb dL_cpu_9 (by decide) ?_
    refine lv_iconst (v := 0) hx hb dL_cpu_15 (by decide) ?_
    exact W.iret hx hb hr (fun t2 ht2 hW => ⟨⟨0, (v, vp_updL fo 0 r.toInt64), rfl, ⟨by rw [← hw]; rfl, by rw [← hw], fun _ => by rw [← hw]; rfl⟩, by show va_P (dC, dI) vwCl (wB x cI cZ v) t2.heap; rw [ht2]; exact hP2, by show va_P (dC, dI) vwCl (wO o cL (vp_updL fo 0 r.toInt64)) t2.heap; rw [ht2]; exact hO2⟩, hS4.F ht2⟩) hS4.2.2 dL_cpu_16 hlocks

set_option maxHeartbeats 4000000 in
set_option maxRecDepth 100000 in
theorem c_L_run (l : Launch) (hst : l.stackTraces = false) (dC : Nat → ClassId) (dI : Nat → Nat → Nat) (cI cZ cL : ClassId) (x : Nat → Nat) (hi : g_inj 13 x) (sa : Nat → Nat) (u : BS) (o : Nat) (ho : ¬ g_bA 13 x o) (fo : Nat → Int64) (p0 : Int32) (hok : ok_X6_run u p0) (hE : ∀ E, (f_X6_run u p0).1 = some E → E = x_IAE) : Met l yL_run (.codeWith yL_run cL_run 4 (some .int) [(0, 9, 12, 13)] :: gtbl) { frames := 7, cells := 1, slots := 6, locals := 153 } (va_Pc [.ref (x 0), .int p0, .ref o] (fun U => va_P (dC, dI) vwCl (wB x cI cZ u) U.heap ∧ va_K (dC, dI) vwCl (tys3 cI cZ cL) U ∧ xe (g_bA 13 x) sa U U.heap ∧ va_P (dC, dI) vwCl (wO o cL fo) U.heap ∧ True)) (va_Qi (fun r (v : BS × (Nat → Int64)) => r = kc (f_X6_run u p0).1 ∧ v.1 = (f_X6_run u p0).2.2 ∧ ((f_X6_run u p0).1 = none → v.2 0 = (f_X6_run u p0).2.1.toInt64)) (fun v t => va_P (dC, dI) vwCl (wB x cI cZ v.1) t.heap ∧ va_P (dC, dI) vwCl (wO o cL v.2) t.heap) (fun q => g_bA 13 x q ∨ q = o)) 1 6 (fun q => g_bA 13 x q ∨ q = o) := by
  refine va_MetW (hh := [(0, 9, 12, 13)]) (cc := cL_run) (maxL := 4) (ret := (some .int)) (by decide) rfl ?_
  intro p e s m args below meth c s₁ B hml hv
  obtain ⟨rfl, hP, hK, hxe, hO, -⟩ := hv
  have hx := B.exec
  have hb := B.bytes
  have hr := B.returns
  have hts := atoms_spec (ws := .codeWith yL_run cL_run 4 (some .int) [(0, 9, 12, 13)] :: gtbl) B.pre
  have hg : ∀ w ∈ gtbl, w.before _ s = true := fun w h => hts w (List.mem_cons_of_mem _ h)
  have hown : s.vm.findClass RL = some m.cls := findClass_of_methodNamed B.named
  have hlocks := B.notSynchronized
  have htab : c.exceptionTable.toList = tableOf [(0, 9, 12, 13)] := vx_table (x := yL_run) B (hts _ List.mem_cons_self)
  have hS : va_S (g_bA 13 x) s.heap s.heap [] := va_S.rf
  have hK2 : va_K (dC, dI) vwCl (tysW cI cZ) s := hK.sub [0, 1] rfl
  have hl := lv_entry ([.ref (x 0), .int p0, .ref o]) (n := 4) (Nat.le_of_ble_eq_true rfl)
  rw [lg_entry_eq]
  generalize (lg_sl ([.ref (x 0), .int p0, .ref o]) ++ List.replicate (4 - (lg_sl ([.ref (x 0), .int p0, .ref o])).length) Slot.unset).toArray = ls at hl ⊢
  have hl : lv_has ls 4 [(0, .ref (x 0)), (1, .int p0), (2, .ref o)] := hl
  obtain ⟨F, hF⟩ : ∃ F, f_X6_run u p0 = F := ⟨_, rfl⟩
  rw [hF] at hE
  rw [hF]
  refine lv_aload_n hx hb dL_run_0 rfl (lv_at hl 2 rfl) ?_
  refine lv_iconst (v := 0) hx hb dL_run_1 (by decide) ?_
  refine lv_aload_n hx hb dL_run_2 rfl (lv_at hl 0 rfl) ?_
  refine lv_iload_n hx hb dL_run_3 rfl (lv_at hl 1 rfl) ?_
  refine vx_calli (vx_runV (As := [.int p0]) (rest := [.int 0, .ref o]) ⟨hx, hb, hml, hown, hg⟩ (c_X6_run l hst dC dI cI cZ x hi sa u p0 hok) (g_cwX hg cs_L_28 rfl rfl ⟨Nat.le_of_ble_eq_true rfl, Nat.le_of_ble_eq_true rfl⟩) ⟨g_blindX, va_recv hK hP (ci := 6) (q0 := 0) rfl rfl, fun U hU hW => ⟨rfl, by rw [hU]; exact hP, va_K.moved hW.alike hK2, xe_call hxe hS hU hW⟩⟩ rfl rfl hl.1 rfl (lv_room (Nat.le_of_ble_eq_true rfl)) dL_run_4 ⟨Nat.le_of_ble_eq_true rfl, Nat.le_of_ble_eq_true rfl⟩) hS (fun q _ h => h) (fun q h => h) (fun q _ h => h) (fun E ce q9 v t H1 locs1 ht hvm _ hB hz hk hS1 hce hcv hcl => ?_) (fun r v t H1 locs1 ht hvm hw hB hz hk hS1 => ?_)
  · have hP1 : va_P (dC, dI) vwCl (wB x cI cZ v) H1 := by rw [← ht]; exact hB.2
    have hO1 : va_P (dC, dI) vwCl (wO o cL fo) H1 := hO.kept (fun k q hk2 => by
      have hq : q.1 = o := by
        match k, hk2 with
        | 0, hk2 => cases hk2; rfl
      rw [hq]
      exact hk o (by have := (hO 0 _ rfl).lt; exact this) ho)
    have hS3 : va_S (fun q => g_bA 13 x q ∨ q = o) s.heap H1 locs1 := ⟨hS1.1, fun q h1 h2 => hS1.2.1 q h1 (fun h => h2 (Or.inl h)), fun z hz => Or.inl (hS1.2.2 z hz)⟩
    have hB1 := hB.1.trans hF
    have hEE := hE E (by rw [← hB1])
    subst hEE
    refine vx_catch (own := RL) (name := x_IAE) (E := x_IAE) hown [] ⟨0, 9, 12, 13⟩ [] htab (fun z hz => by cases hz) (by decide) (by decide) (hg _ kk_L_13) (kt_of hxe (by decide +kernel)) hce hcv hcl ?_
    refine lv_astore_n hx hb dL_run_12 rfl hl (by decide) rfl (fun ls hl => ?_)
    refine lv_iconst (v := 1) hx hb dL_run_13 (by decide) ?_
    exact W.iret hx hb hr (fun t2 ht2 hW => ⟨⟨1, (v, fo), rfl, ⟨by rw [← hB1]; exact kc_IAE.symm, by rw [← hB1], fun h => by rw [← hB1] at h; cases h⟩, by show va_P (dC, dI) vwCl (wB x cI cZ v) t2.heap; rw [ht2]; exact hP1, by show va_P (dC, dI) vwCl (wO o cL fo) t2.heap; rw [ht2]; exact hO1⟩, hS3.F ht2⟩) hS3.2.2 dL_run_14 hlocks
  · have hP1 : va_P (dC, dI) vwCl (wB x cI cZ v) H1 := by rw [← ht]; exact hB
    have hw := hw.trans hF
    have hO1 : va_P (dC, dI) vwCl (wO o cL fo) H1 := hO.kept (fun k q hk2 => by
      have hq : q.1 = o := by
        match k, hk2 with
        | 0, hk2 => cases hk2; rfl
      rw [hq]
      exact hk o (by have := (hO 0 _ rfl).lt; exact this) ho)
    have hS3 : va_S (fun q => g_bA 13 x q ∨ q = o) s.heap H1 locs1 := ⟨hS1.1, fun q h1 h2 => hS1.2.1 q h1 (fun h => h2 (Or.inl h)), fun z hz => Or.inl (hS1.2.2 z hz)⟩
    have hDo : va_D (fun q => g_bA 13 x q ∨ q = o) (wO o cL fo) := ⟨fun i j a b ha hb2 _ => by
      have h1 := (List.getElem?_eq_some_iff.mp ha).1
      have h2 := (List.getElem?_eq_some_iff.mp hb2).1
      simp only [wO, List.length_cons, List.length_nil] at h1 h2
      omega, fun k q hk2 => by
      match k, hk2 with
      | 0, hk2 => cases hk2; exact Or.inr rfl⟩
    refine lv_i2l hx hb dL_run_7 rfl ?_
    have hDw : va_D (fun q => g_bA 13 x q ∨ q = o) (wB x cI cZ v) := (wB_D hi v).weaken (fun _ _ _ h => Or.inl h)
    have hDa : va_D (fun q => g_bA 13 x q ∨ q = o) (wO o cL fo ++ wB x cI cZ v) := hDo.app hDw (fun i j a b ha hb2 hab => ho (by
      have h1 : a.1 = o := by
        match i, ha with
        | 0, ha => cases ha; rfl
      rw [← h1, hab]
      exact (wB_D hi v).2 j b hb2))
    have hPa : va_P (dC, dI) vwCl (wO o cL fo ++ wB x cI cZ v) H1 := hO1.app hP1
    refine va_last (D := (dC, dI)) hx hb hK hPa hDa hS3 0 2 rfl rfl (i := 0) (by unfold vp_in; decide) dL_run_8 (fun H2 locs2 hPb _ hS4 => ?_)
    have hPb : va_P (dC, dI) vwCl (wO o cL (vp_updL fo 0 r.toInt64) ++ wB x cI cZ v) H2 := hPb
    have hO2 : va_P (dC, dI) vwCl (wO o cL (vp_updL fo 0 r.toInt64)) H2 := hPb.sub [0] rfl
    have hP2 : va_P (dC, dI) vwCl (wB x cI cZ v) H2 := fun k q hk2 => hPb (k + 1) q hk2
    refine lv_goto (tgt := 15) hx hb dL_run_9 (by decide) ?_
    refine lv_iconst (v := 0) hx hb dL_run_15 (by decide) ?_
    exact W.iret hx hb hr (fun t2 ht2 hW => ⟨⟨0, (v, vp_updL fo 0 r.toInt64), rfl, ⟨by rw [← hw]; rfl, by rw [← hw], fun _ => by rw [← hw]; rfl⟩, by show va_P (dC, dI) vwCl (wB x cI cZ v) t2.heap; rw [ht2]; exact hP2, by show va_P (dC, dI) vwCl (wO o cL (vp_updL fo 0 r.toInt64)) t2.heap; rw [ht2]; exact hO2⟩, hS4.F ht2⟩) hS4.2.2 dL_run_16 hlocks

set_option maxHeartbeats 4000000 in
set_option maxRecDepth 100000 in
theorem c_L_video (l : Launch) (hst : l.stackTraces = false) (dC : Nat → ClassId) (dI : Nat → Nat → Nat) (cI cZ cL : ClassId) (x : Nat → Nat) (hi : g_inj 13 x) (sa : Nat → Nat) (u : BS) (o : Nat) (ho : ¬ g_bA 13 x o) (fo : Nat → Int64) (p0 : Int32) (hE : ∀ E, (f_X6_video u p0).1 = some E → E = x_NSE) : Met l yL_video (.codeWith yL_video cL_video 4 (some .int) [(0, 9, 12, 19)] :: gtbl) { frames := 7, cells := 1, slots := 6, locals := 111 } (va_Pc [.ref (x 0), .int p0, .ref o] (fun U => va_P (dC, dI) vwCl (wB x cI cZ u) U.heap ∧ va_K (dC, dI) vwCl (tys3 cI cZ cL) U ∧ xe (g_bA 13 x) sa U U.heap ∧ va_P (dC, dI) vwCl (wO o cL fo) U.heap ∧ True)) (va_Qi (fun r (v : BS × (Nat → Int64)) => r = kc (f_X6_video u p0).1 ∧ v.1 = (f_X6_video u p0).2.2 ∧ ((f_X6_video u p0).1 = none → v.2 0 = (f_X6_video u p0).2.1.toInt64)) (fun v t => va_P (dC, dI) vwCl (wB x cI cZ v.1) t.heap ∧ va_P (dC, dI) vwCl (wO o cL v.2) t.heap) (fun q => g_bA 13 x q ∨ q = o)) 1 6 (fun q => g_bA 13 x q ∨ q = o) := by
  refine va_MetW (hh := [(0, 9, 12, 19)]) (cc := cL_video) (maxL := 4) (ret := (some .int)) (by decide) rfl ?_
  intro p e s m args below meth c s₁ B hml hv
  obtain ⟨rfl, hP, hK, hxe, hO, -⟩ := hv
  have hx := B.exec
  have hb := B.bytes
  have hr := B.returns
  have hts := atoms_spec (ws := .codeWith yL_video cL_video 4 (some .int) [(0, 9, 12, 19)] :: gtbl) B.pre
  have hg : ∀ w ∈ gtbl, w.before _ s = true := fun w h => hts w (List.mem_cons_of_mem _ h)
  have hown : s.vm.findClass RL = some m.cls := findClass_of_methodNamed B.named
  have hlocks := B.notSynchronized
  have htab : c.exceptionTable.toList = tableOf [(0, 9, 12, 19)] := vx_table (x := yL_video) B (hts _ List.mem_cons_self)
  have hS : va_S (g_bA 13 x) s.heap s.heap [] := va_S.rf
  have hK2 : va_K (dC, dI) vwCl (tysW cI cZ) s := hK.sub [0, 1] rfl
  have hl := lv_entry ([.ref (x 0), .int p0, .ref o]) (n := 4) (Nat.le_of_ble_eq_true rfl)
  rw [lg_entry_eq]
  generalize (lg_sl ([.ref (x 0), .int p0, .ref o]) ++ List.replicate (4 - (lg_sl ([.ref (x 0), .int p0, .ref o])).length) Slot.unset).toArray = ls at hl ⊢
  have hl : lv_has ls 4 [(0, .ref (x 0)), (1, .int p0), (2, .ref o)] := hl
  obtain ⟨F, hF⟩ : ∃ F, f_X6_video u p0 = F := ⟨_, rfl⟩
  rw [hF] at hE
  rw [hF]
  refine lv_aload_n hx hb dL_video_0 rfl (lv_at hl 2 rfl) ?_
  refine lv_iconst (v := 0) hx hb dL_video_1 (by decide) ?_
  refine lv_aload_n hx hb dL_video_2 rfl (lv_at hl 0 rfl) ?_
  refine lv_iload_n hx hb dL_video_3 rfl (lv_at hl 1 rfl) ?_
  refine vx_calli (vx_runV (As := [.int p0]) (rest := [.int 0, .ref o]) ⟨hx, hb, hml, hown, hg⟩ (c_X6_video l hst dC dI cI cZ x hi sa u p0) (g_cwX hg cs_L_31 rfl rfl ⟨Nat.le_of_ble_eq_true rfl, Nat.le_of_ble_eq_true rfl⟩) ⟨g_blindX, va_recv hK hP (ci := 6) (q0 := 0) rfl rfl, fun U hU hW => ⟨rfl, by rw [hU]; exact hP, va_K.moved hW.alike hK2, xe_call hxe hS hU hW⟩⟩ rfl rfl hl.1 rfl (lv_room (Nat.le_of_ble_eq_true rfl)) dL_video_4 ⟨Nat.le_of_ble_eq_true rfl, Nat.le_of_ble_eq_true rfl⟩) hS (fun q _ h => h) (fun q h => h) (fun q _ h => h) (fun E ce q9 v t H1 locs1 ht hvm _ hB hz hk hS1 hce hcv hcl => ?_) (fun r v t H1 locs1 ht hvm hw hB hz hk hS1 => ?_)
  · have hP1 : va_P (dC, dI) vwCl (wB x cI cZ v) H1 := by rw [← ht]; exact hB.2
    have hO1 : va_P (dC, dI) vwCl (wO o cL fo) H1 := hO.kept (fun k q hk2 => by
      have hq : q.1 = o := by
        match k, hk2 with
        | 0, hk2 => cases hk2; rfl
      rw [hq]
      exact hk o (by have := (hO 0 _ rfl).lt; exact this) ho)
    have hS3 : va_S (fun q => g_bA 13 x q ∨ q = o) s.heap H1 locs1 := ⟨hS1.1, fun q h1 h2 => hS1.2.1 q h1 (fun h => h2 (Or.inl h)), fun z hz => Or.inl (hS1.2.2 z hz)⟩
    have hB1 := hB.1.trans hF
    have hEE := hE E (by rw [← hB1])
    subst hEE
    refine vx_catch (own := RL) (name := x_NSE) (E := x_NSE) hown [] ⟨0, 9, 12, 19⟩ [] htab (fun z hz => by cases hz) (by decide) (by decide) (hg _ kk_L_19) (kt_of hxe (by decide +kernel)) hce hcv hcl ?_
    refine lv_astore_n hx hb dL_video_12 rfl hl (by decide) rfl (fun ls hl => ?_)
    refine lv_iconst (v := 1) hx hb dL_video_13 (by decide) ?_
    exact W.iret hx hb hr (fun t2 ht2 hW => ⟨⟨1, (v, fo), rfl, ⟨by rw [← hB1]; exact kc_NSE.symm, by rw [← hB1], fun h => by rw [← hB1] at h; cases h⟩, by show va_P (dC, dI) vwCl (wB x cI cZ v) t2.heap; rw [ht2]; exact hP1, by show va_P (dC, dI) vwCl (wO o cL fo) t2.heap; rw [ht2]; exact hO1⟩, hS3.F ht2⟩) hS3.2.2 dL_video_14 hlocks
  · have hP1 : va_P (dC, dI) vwCl (wB x cI cZ v) H1 := by rw [← ht]; exact hB
    have hw := hw.trans hF
    have hO1 : va_P (dC, dI) vwCl (wO o cL fo) H1 := hO.kept (fun k q hk2 => by
      have hq : q.1 = o := by
        match k, hk2 with
        | 0, hk2 => cases hk2; rfl
      rw [hq]
      exact hk o (by have := (hO 0 _ rfl).lt; exact this) ho)
    have hS3 : va_S (fun q => g_bA 13 x q ∨ q = o) s.heap H1 locs1 := ⟨hS1.1, fun q h1 h2 => hS1.2.1 q h1 (fun h => h2 (Or.inl h)), fun z hz => Or.inl (hS1.2.2 z hz)⟩
    have hDo : va_D (fun q => g_bA 13 x q ∨ q = o) (wO o cL fo) := ⟨fun i j a b ha hb2 _ => by
      have h1 := (List.getElem?_eq_some_iff.mp ha).1
      have h2 := (List.getElem?_eq_some_iff.mp hb2).1
      simp only [wO, List.length_cons, List.length_nil] at h1 h2
      omega, fun k q hk2 => by
      match k, hk2 with
      | 0, hk2 => cases hk2; exact Or.inr rfl⟩
    refine lv_i2l hx hb dL_video_7 rfl ?_
    have hDw : va_D (fun q => g_bA 13 x q ∨ q = o) (wB x cI cZ v) := (wB_D hi v).weaken (fun _ _ _ h => Or.inl h)
    have hDa : va_D (fun q => g_bA 13 x q ∨ q = o) (wO o cL fo ++ wB x cI cZ v) := hDo.app hDw (fun i j a b ha hb2 hab => ho (by
      have h1 : a.1 = o := by
        match i, ha with
        | 0, ha => cases ha; rfl
      rw [← h1, hab]
      exact (wB_D hi v).2 j b hb2))
    have hPa : va_P (dC, dI) vwCl (wO o cL fo ++ wB x cI cZ v) H1 := hO1.app hP1
    refine va_last (D := (dC, dI)) hx hb hK hPa hDa hS3 0 2 rfl rfl (i := 0) (by unfold vp_in; decide) dL_video_8 (fun H2 locs2 hPb _ hS4 => ?_)
    have hPb : va_P (dC, dI) vwCl (wO o cL (vp_updL fo 0 r.toInt64) ++ wB x cI cZ v) H2 := hPb
    have hO2 : va_P (dC, dI) vwCl (wO o cL (vp_updL fo 0 r.toInt64)) H2 := hPb.sub [0] rfl
    have hP2 : va_P (dC, dI) vwCl (wB x cI cZ v) H2 := fun k q hk2 => hPb (k + 1) q hk2
    refine lv_goto (tgt := 15) hx hb dL_video_9 (by decide) ?_
    refine lv_iconst (v := 0) hx hb dL_video_15 (by decide) ?_
    exact W.iret hx hb hr (fun t2 ht2 hW => ⟨⟨0, (v, vp_updL fo 0 r.toInt64), rfl, ⟨by rw [← hw]; rfl, by rw [← hw], fun _ => by rw [← hw]; rfl⟩, by show va_P (dC, dI) vwCl (wB x cI cZ v) t2.heap; rw [ht2]; exact hP2, by show va_P (dC, dI) vwCl (wO o cL (vp_updL fo 0 r.toInt64)) t2.heap; rw [ht2]; exact hO2⟩, hS4.F ht2⟩) hS4.2.2 dL_video_16 hlocks

set_option maxHeartbeats 4000000 in
set_option maxRecDepth 100000 in
theorem c_L_shown (l : Launch) (hst : l.stackTraces = false) (dC : Nat → ClassId) (dI : Nat → Nat → Nat) (cI cZ cL : ClassId) (x : Nat → Nat) (hi : g_inj 13 x) (sa : Nat → Nat) (u : BS) (o : Nat) (ho : ¬ g_bA 13 x o) (fo : Nat → Int64) (p0 : Int32) (p1 : Int32) (hok : ok_X6_shown u p0 p1) (hE : ∀ E, (f_X6_shown u p0 p1).1 = some E → E = x_NSE) : Met l yL_shown (.codeWith yL_shown cL_shown 5 (some .int) [(0, 10, 13, 19)] :: gtbl) { frames := 7, cells := 1, slots := 6, locals := 112 } (va_Pc [.ref (x 0), .int p0, .int p1, .ref o] (fun U => va_P (dC, dI) vwCl (wB x cI cZ u) U.heap ∧ va_K (dC, dI) vwCl (tys3 cI cZ cL) U ∧ xe (g_bA 13 x) sa U U.heap ∧ va_P (dC, dI) vwCl (wO o cL fo) U.heap ∧ True)) (va_Qi (fun r (v : BS × (Nat → Int64)) => r = kc (f_X6_shown u p0 p1).1 ∧ v.1 = (f_X6_shown u p0 p1).2.2 ∧ ((f_X6_shown u p0 p1).1 = none → v.2 0 = (f_X6_shown u p0 p1).2.1.toInt64)) (fun v t => va_P (dC, dI) vwCl (wB x cI cZ v.1) t.heap ∧ va_P (dC, dI) vwCl (wO o cL v.2) t.heap) (fun q => g_bA 13 x q ∨ q = o)) 1 6 (fun q => g_bA 13 x q ∨ q = o) := by
  refine va_MetW (hh := [(0, 10, 13, 19)]) (cc := cL_shown) (maxL := 5) (ret := (some .int)) (by decide) rfl ?_
  intro p e s m args below meth c s₁ B hml hv
  obtain ⟨rfl, hP, hK, hxe, hO, -⟩ := hv
  have hx := B.exec
  have hb := B.bytes
  have hr := B.returns
  have hts := atoms_spec (ws := .codeWith yL_shown cL_shown 5 (some .int) [(0, 10, 13, 19)] :: gtbl) B.pre
  have hg : ∀ w ∈ gtbl, w.before _ s = true := fun w h => hts w (List.mem_cons_of_mem _ h)
  have hown : s.vm.findClass RL = some m.cls := findClass_of_methodNamed B.named
  have hlocks := B.notSynchronized
  have htab : c.exceptionTable.toList = tableOf [(0, 10, 13, 19)] := vx_table (x := yL_shown) B (hts _ List.mem_cons_self)
  have hS : va_S (g_bA 13 x) s.heap s.heap [] := va_S.rf
  have hK2 : va_K (dC, dI) vwCl (tysW cI cZ) s := hK.sub [0, 1] rfl
  have hl := lv_entry ([.ref (x 0), .int p0, .int p1, .ref o]) (n := 5) (Nat.le_of_ble_eq_true rfl)
  rw [lg_entry_eq]
  generalize (lg_sl ([.ref (x 0), .int p0, .int p1, .ref o]) ++ List.replicate (5 - (lg_sl ([.ref (x 0), .int p0, .int p1, .ref o])).length) Slot.unset).toArray = ls at hl ⊢
  have hl : lv_has ls 5 [(0, .ref (x 0)), (1, .int p0), (2, .int p1), (3, .ref o)] := hl
  obtain ⟨F, hF⟩ : ∃ F, f_X6_shown u p0 p1 = F := ⟨_, rfl⟩
  rw [hF] at hE
  rw [hF]
  refine lv_aload_n hx hb dL_shown_0 rfl (lv_at hl 3 rfl) ?_
  refine lv_iconst (v := 0) hx hb dL_shown_1 (by decide) ?_
  refine lv_aload_n hx hb dL_shown_2 rfl (lv_at hl 0 rfl) ?_
  refine lv_iload_n hx hb dL_shown_3 rfl (lv_at hl 1 rfl) ?_
  refine lv_iload_n hx hb dL_shown_4 rfl (lv_at hl 2 rfl) ?_
  refine vx_calli (vx_runV (As := [.int p0, .int p1]) (rest := [.int 0, .ref o]) ⟨hx, hb, hml, hown, hg⟩ (c_X6_shown l hst dC dI cI cZ x hi sa u p0 p1 hok) (g_cwX hg cs_L_34 rfl rfl ⟨Nat.le_of_ble_eq_true rfl, Nat.le_of_ble_eq_true rfl⟩) ⟨g_blindX, va_recv hK hP (ci := 6) (q0 := 0) rfl rfl, fun U hU hW => ⟨rfl, by rw [hU]; exact hP, va_K.moved hW.alike hK2, xe_call hxe hS hU hW⟩⟩ rfl rfl hl.1 rfl (lv_room (Nat.le_of_ble_eq_true rfl)) dL_shown_5 ⟨Nat.le_of_ble_eq_true rfl, Nat.le_of_ble_eq_true rfl⟩) hS (fun q _ h => h) (fun q h => h) (fun q _ h => h) (fun E ce q9 v t H1 locs1 ht hvm _ hB hz hk hS1 hce hcv hcl => ?_) (fun r v t H1 locs1 ht hvm hw hB hz hk hS1 => ?_)
  · have hP1 : va_P (dC, dI) vwCl (wB x cI cZ v) H1 := by rw [← ht]; exact hB.2
    have hO1 : va_P (dC, dI) vwCl (wO o cL fo) H1 := hO.kept (fun k q hk2 => by
      have hq : q.1 = o := by
        match k, hk2 with
        | 0, hk2 => cases hk2; rfl
      rw [hq]
      exact hk o (by have := (hO 0 _ rfl).lt; exact this) ho)
    have hS3 : va_S (fun q => g_bA 13 x q ∨ q = o) s.heap H1 locs1 := ⟨hS1.1, fun q h1 h2 => hS1.2.1 q h1 (fun h => h2 (Or.inl h)), fun z hz => Or.inl (hS1.2.2 z hz)⟩
    have hB1 := hB.1.trans hF
    have hEE := hE E (by rw [← hB1])
    subst hEE
    refine vx_catch (own := RL) (name := x_NSE) (E := x_NSE) hown [] ⟨0, 10, 13, 19⟩ [] htab (fun z hz => by cases hz) (by decide) (by decide) (hg _ kk_L_19) (kt_of hxe (by decide +kernel)) hce hcv hcl ?_
    refine lv_astore hx hb dL_shown_13 hl (by decide) rfl (fun ls hl => ?_)
    refine lv_iconst (v := 1) hx hb dL_shown_15 (by decide) ?_
    exact W.iret hx hb hr (fun t2 ht2 hW => ⟨⟨1, (v, fo), rfl, ⟨by rw [← hB1]; exact kc_NSE.symm, by rw [← hB1], fun h => by rw [← hB1] at h; cases h⟩, by show va_P (dC, dI) vwCl (wB x cI cZ v) t2.heap; rw [ht2]; exact hP1, by show va_P (dC, dI) vwCl (wO o cL fo) t2.heap; rw [ht2]; exact hO1⟩, hS3.F ht2⟩) hS3.2.2 dL_shown_16 hlocks
  · have hP1 : va_P (dC, dI) vwCl (wB x cI cZ v) H1 := by rw [← ht]; exact hB
    have hw := hw.trans hF
    have hO1 : va_P (dC, dI) vwCl (wO o cL fo) H1 := hO.kept (fun k q hk2 => by
      have hq : q.1 = o := by
        match k, hk2 with
        | 0, hk2 => cases hk2; rfl
      rw [hq]
      exact hk o (by have := (hO 0 _ rfl).lt; exact this) ho)
    have hS3 : va_S (fun q => g_bA 13 x q ∨ q = o) s.heap H1 locs1 := ⟨hS1.1, fun q h1 h2 => hS1.2.1 q h1 (fun h => h2 (Or.inl h)), fun z hz => Or.inl (hS1.2.2 z hz)⟩
    have hDo : va_D (fun q => g_bA 13 x q ∨ q = o) (wO o cL fo) := ⟨fun i j a b ha hb2 _ => by
      have h1 := (List.getElem?_eq_some_iff.mp ha).1
      have h2 := (List.getElem?_eq_some_iff.mp hb2).1
      simp only [wO, List.length_cons, List.length_nil] at h1 h2
      omega, fun k q hk2 => by
      match k, hk2 with
      | 0, hk2 => cases hk2; exact Or.inr rfl⟩
    refine lv_i2l hx hb dL_shown_8 rfl ?_
    have hDw : va_D (fun q => g_bA 13 x q ∨ q = o) (wB x cI cZ v) := (wB_D hi v).weaken (fun _ _ _ h => Or.inl h)
    have hDa : va_D (fun q => g_bA 13 x q ∨ q = o) (wO o cL fo ++ wB x cI cZ v) := hDo.app hDw (fun i j a b ha hb2 hab => ho (by
      have h1 : a.1 = o := by
        match i, ha with
        | 0, ha => cases ha; rfl
      rw [← h1, hab]
      exact (wB_D hi v).2 j b hb2))
    have hPa : va_P (dC, dI) vwCl (wO o cL fo ++ wB x cI cZ v) H1 := hO1.app hP1
    refine va_last (D := (dC, dI)) hx hb hK hPa hDa hS3 0 2 rfl rfl (i := 0) (by unfold vp_in; decide) dL_shown_9 (fun H2 locs2 hPb _ hS4 => ?_)
    have hPb : va_P (dC, dI) vwCl (wO o cL (vp_updL fo 0 r.toInt64) ++ wB x cI cZ v) H2 := hPb
    have hO2 : va_P (dC, dI) vwCl (wO o cL (vp_updL fo 0 r.toInt64)) H2 := hPb.sub [0] rfl
    have hP2 : va_P (dC, dI) vwCl (wB x cI cZ v) H2 := fun k q hk2 => hPb (k + 1) q hk2
    refine lv_goto (tgt := 17) hx hb dL_shown_10 (by decide) ?_
    refine lv_iconst (v := 0) hx hb dL_shown_17 (by decide) ?_
    exact W.iret hx hb hr (fun t2 ht2 hW => ⟨⟨0, (v, vp_updL fo 0 r.toInt64), rfl, ⟨by rw [← hw]; rfl, by rw [← hw], fun _ => by rw [← hw]; rfl⟩, by show va_P (dC, dI) vwCl (wB x cI cZ v) t2.heap; rw [ht2]; exact hP2, by show va_P (dC, dI) vwCl (wO o cL (vp_updL fo 0 r.toInt64)) t2.heap; rw [ht2]; exact hO2⟩, hS4.F ht2⟩) hS4.2.2 dL_shown_18 hlocks

set_option maxHeartbeats 4000000 in
set_option maxRecDepth 100000 in
theorem c_L_chip (l : Launch) (hst : l.stackTraces = false) (dC : Nat → ClassId) (dI : Nat → Nat → Nat) (cI cZ cL : ClassId) (x : Nat → Nat) (hi : g_inj 13 x) (sa : Nat → Nat) (u : BS) (o : Nat) (ho : ¬ g_bA 13 x o) (fo : Nat → Int64) (p0 : Int32) (hok : ok_X6_chip u p0) (hE : ∀ E, (f_X6_chip u p0).1 = some E → E = x_IAE ∨ E = x_UOE ∨ E = x_ISE) : Met l yL_chip (.codeWith yL_chip cL_chip 4 (some .int) [(0, 9, 12, 13), (0, 9, 15, 41), (0, 9, 18, 43)] :: gtbl) { frames := 7, cells := 1, slots := 6, locals := 168 } (va_Pc [.ref (x 0), .int p0, .ref o] (fun U => va_P (dC, dI) vwCl (wB x cI cZ u) U.heap ∧ va_K (dC, dI) vwCl (tys3 cI cZ cL) U ∧ xe (g_bA 13 x) sa U U.heap ∧ va_P (dC, dI) vwCl (wO o cL fo) U.heap ∧ va_Nc x_UOE x_IAE U ∧ va_Nc x_ISE x_IAE U ∧ va_Nc x_ISE x_UOE U)) (va_Qi (fun r (v : BS × (Nat → Int64)) => r = kc (f_X6_chip u p0).1 ∧ v.1 = (f_X6_chip u p0).2.2 ∧ ((f_X6_chip u p0).1 = none → v.2 0 = (f_X6_chip u p0).2.1.toInt64)) (fun v t => va_P (dC, dI) vwCl (wB x cI cZ v.1) t.heap ∧ va_P (dC, dI) vwCl (wO o cL v.2) t.heap) (fun q => g_bA 13 x q ∨ q = o)) 1 6 (fun q => g_bA 13 x q ∨ q = o) := by
  refine va_MetW (hh := [(0, 9, 12, 13), (0, 9, 15, 41), (0, 9, 18, 43)]) (cc := cL_chip) (maxL := 4) (ret := (some .int)) (by decide) rfl ?_
  intro p e s m args below meth c s₁ B hml hv
  obtain ⟨rfl, hP, hK, hxe, hO, hnc⟩ := hv
  have hx := B.exec
  have hb := B.bytes
  have hr := B.returns
  have hts := atoms_spec (ws := .codeWith yL_chip cL_chip 4 (some .int) [(0, 9, 12, 13), (0, 9, 15, 41), (0, 9, 18, 43)] :: gtbl) B.pre
  have hg : ∀ w ∈ gtbl, w.before _ s = true := fun w h => hts w (List.mem_cons_of_mem _ h)
  have hown : s.vm.findClass RL = some m.cls := findClass_of_methodNamed B.named
  have hlocks := B.notSynchronized
  have htab : c.exceptionTable.toList = tableOf [(0, 9, 12, 13), (0, 9, 15, 41), (0, 9, 18, 43)] := vx_table (x := yL_chip) B (hts _ List.mem_cons_self)
  have hS : va_S (g_bA 13 x) s.heap s.heap [] := va_S.rf
  have hK2 : va_K (dC, dI) vwCl (tysW cI cZ) s := hK.sub [0, 1] rfl
  have hl := lv_entry ([.ref (x 0), .int p0, .ref o]) (n := 4) (Nat.le_of_ble_eq_true rfl)
  rw [lg_entry_eq]
  generalize (lg_sl ([.ref (x 0), .int p0, .ref o]) ++ List.replicate (4 - (lg_sl ([.ref (x 0), .int p0, .ref o])).length) Slot.unset).toArray = ls at hl ⊢
  have hl : lv_has ls 4 [(0, .ref (x 0)), (1, .int p0), (2, .ref o)] := hl
  obtain ⟨F, hF⟩ : ∃ F, f_X6_chip u p0 = F := ⟨_, rfl⟩
  rw [hF] at hE
  rw [hF]
  refine lv_aload_n hx hb dL_chip_0 rfl (lv_at hl 2 rfl) ?_
  refine lv_iconst (v := 0) hx hb dL_chip_1 (by decide) ?_
  refine lv_aload_n hx hb dL_chip_2 rfl (lv_at hl 0 rfl) ?_
  refine lv_iload_n hx hb dL_chip_3 rfl (lv_at hl 1 rfl) ?_
  refine vx_calli (vx_runV (As := [.int p0]) (rest := [.int 0, .ref o]) ⟨hx, hb, hml, hown, hg⟩ (c_X6_chip l hst dC dI cI cZ x hi sa u p0 hok) (g_cwX hg cs_L_38 rfl rfl ⟨Nat.le_of_ble_eq_true rfl, Nat.le_of_ble_eq_true rfl⟩) ⟨g_blindX, va_recv hK hP (ci := 6) (q0 := 0) rfl rfl, fun U hU hW => ⟨rfl, by rw [hU]; exact hP, va_K.moved hW.alike hK2, xe_call hxe hS hU hW⟩⟩ rfl rfl hl.1 rfl (lv_room (Nat.le_of_ble_eq_true rfl)) dL_chip_4 ⟨Nat.le_of_ble_eq_true rfl, Nat.le_of_ble_eq_true rfl⟩) hS (fun q _ h => h) (fun q h => h) (fun q _ h => h) (fun E ce q9 v t H1 locs1 ht hvm _ hB hz hk hS1 hce hcv hcl => ?_) (fun r v t H1 locs1 ht hvm hw hB hz hk hS1 => ?_)
  · have hP1 : va_P (dC, dI) vwCl (wB x cI cZ v) H1 := by rw [← ht]; exact hB.2
    have hO1 : va_P (dC, dI) vwCl (wO o cL fo) H1 := hO.kept (fun k q hk2 => by
      have hq : q.1 = o := by
        match k, hk2 with
        | 0, hk2 => cases hk2; rfl
      rw [hq]
      exact hk o (by have := (hO 0 _ rfl).lt; exact this) ho)
    have hS3 : va_S (fun q => g_bA 13 x q ∨ q = o) s.heap H1 locs1 := ⟨hS1.1, fun q h1 h2 => hS1.2.1 q h1 (fun h => h2 (Or.inl h)), fun z hz => Or.inl (hS1.2.2 z hz)⟩
    have hB1 := hB.1.trans hF
    have hEE := hE E (by rw [← hB1])
    rcases hEE with rfl | rfl | rfl
    · refine vx_catch (own := RL) (name := x_IAE) (E := x_IAE) hown [] ⟨0, 9, 12, 13⟩ [⟨0, 9, 15, 41⟩, ⟨0, 9, 18, 43⟩] htab (fun z hz => by cases hz) (by decide) (by decide) (hg _ kk_L_13) (kt_of hxe (by decide +kernel)) hce hcv hcl ?_
      refine lv_astore_n hx hb dL_chip_12 rfl hl (by decide) rfl (fun ls hl => ?_)
      refine lv_iconst (v := 1) hx hb dL_chip_13 (by decide) ?_
      exact W.iret hx hb hr (fun t2 ht2 hW => ⟨⟨1, (v, fo), rfl, ⟨by rw [← hB1]; exact kc_IAE.symm, by rw [← hB1], fun h => by rw [← hB1] at h; cases h⟩, by show va_P (dC, dI) vwCl (wB x cI cZ v) t2.heap; rw [ht2]; exact hP1, by show va_P (dC, dI) vwCl (wO o cL fo) t2.heap; rw [ht2]; exact hO1⟩, hS3.F ht2⟩) hS3.2.2 dL_chip_14 hlocks
    · refine vx_catch (own := RL) (name := x_UOE) (E := x_UOE) hown [⟨0, 9, 12, 13⟩] ⟨0, 9, 15, 41⟩ [⟨0, 9, 18, 43⟩] htab (List.forall_mem_cons.mpr ⟨Or.inr ⟨by decide, x_IAE, hg _ kk_L_13, hnc.1⟩, fun z hz => by cases hz⟩) (by decide) (by decide) (hg _ kk_L_41) (kt_of hxe (by decide +kernel)) hce hcv hcl ?_
      refine lv_astore_n hx hb dL_chip_15 rfl hl (by decide) rfl (fun ls hl => ?_)
      refine lv_iconst (v := 2) hx hb dL_chip_16 (by decide) ?_
      exact W.iret hx hb hr (fun t2 ht2 hW => ⟨⟨2, (v, fo), rfl, ⟨by rw [← hB1]; exact kc_UOE.symm, by rw [← hB1], fun h => by rw [← hB1] at h; cases h⟩, by show va_P (dC, dI) vwCl (wB x cI cZ v) t2.heap; rw [ht2]; exact hP1, by show va_P (dC, dI) vwCl (wO o cL fo) t2.heap; rw [ht2]; exact hO1⟩, hS3.F ht2⟩) hS3.2.2 dL_chip_17 hlocks
    · refine vx_catch (own := RL) (name := x_ISE) (E := x_ISE) hown [⟨0, 9, 12, 13⟩, ⟨0, 9, 15, 41⟩] ⟨0, 9, 18, 43⟩ [] htab (List.forall_mem_cons.mpr ⟨Or.inr ⟨by decide, x_IAE, hg _ kk_L_13, hnc.2.1⟩, List.forall_mem_cons.mpr ⟨Or.inr ⟨by decide, x_UOE, hg _ kk_L_41, hnc.2.2⟩, fun z hz => by cases hz⟩⟩) (by decide) (by decide) (hg _ kk_L_43) (kt_of hxe (by decide +kernel)) hce hcv hcl ?_
      refine lv_astore_n hx hb dL_chip_18 rfl hl (by decide) rfl (fun ls hl => ?_)
      refine lv_iconst (v := 3) hx hb dL_chip_19 (by decide) ?_
      exact W.iret hx hb hr (fun t2 ht2 hW => ⟨⟨3, (v, fo), rfl, ⟨by rw [← hB1]; exact kc_ISE.symm, by rw [← hB1], fun h => by rw [← hB1] at h; cases h⟩, by show va_P (dC, dI) vwCl (wB x cI cZ v) t2.heap; rw [ht2]; exact hP1, by show va_P (dC, dI) vwCl (wO o cL fo) t2.heap; rw [ht2]; exact hO1⟩, hS3.F ht2⟩) hS3.2.2 dL_chip_20 hlocks
  · have hP1 : va_P (dC, dI) vwCl (wB x cI cZ v) H1 := by rw [← ht]; exact hB
    have hw := hw.trans hF
    have hO1 : va_P (dC, dI) vwCl (wO o cL fo) H1 := hO.kept (fun k q hk2 => by
      have hq : q.1 = o := by
        match k, hk2 with
        | 0, hk2 => cases hk2; rfl
      rw [hq]
      exact hk o (by have := (hO 0 _ rfl).lt; exact this) ho)
    have hS3 : va_S (fun q => g_bA 13 x q ∨ q = o) s.heap H1 locs1 := ⟨hS1.1, fun q h1 h2 => hS1.2.1 q h1 (fun h => h2 (Or.inl h)), fun z hz => Or.inl (hS1.2.2 z hz)⟩
    have hDo : va_D (fun q => g_bA 13 x q ∨ q = o) (wO o cL fo) := ⟨fun i j a b ha hb2 _ => by
      have h1 := (List.getElem?_eq_some_iff.mp ha).1
      have h2 := (List.getElem?_eq_some_iff.mp hb2).1
      simp only [wO, List.length_cons, List.length_nil] at h1 h2
      omega, fun k q hk2 => by
      match k, hk2 with
      | 0, hk2 => cases hk2; exact Or.inr rfl⟩
    refine lv_i2l hx hb dL_chip_7 rfl ?_
    have hDw : va_D (fun q => g_bA 13 x q ∨ q = o) (wB x cI cZ v) := (wB_D hi v).weaken (fun _ _ _ h => Or.inl h)
    have hDa : va_D (fun q => g_bA 13 x q ∨ q = o) (wO o cL fo ++ wB x cI cZ v) := hDo.app hDw (fun i j a b ha hb2 hab => ho (by
      have h1 : a.1 = o := by
        match i, ha with
        | 0, ha => cases ha; rfl
      rw [← h1, hab]
      exact (wB_D hi v).2 j b hb2))
    have hPa : va_P (dC, dI) vwCl (wO o cL fo ++ wB x cI cZ v) H1 := hO1.app hP1
    refine va_last (D := (dC, dI)) hx hb hK hPa hDa hS3 0 2 rfl rfl (i := 0) (by unfold vp_in; decide) dL_chip_8 (fun H2 locs2 hPb _ hS4 => ?_)
    have hPb : va_P (dC, dI) vwCl (wO o cL (vp_updL fo 0 r.toInt64) ++ wB x cI cZ v) H2 := hPb
    have hO2 : va_P (dC, dI) vwCl (wO o cL (vp_updL fo 0 r.toInt64)) H2 := hPb.sub [0] rfl
    have hP2 : va_P (dC, dI) vwCl (wB x cI cZ v) H2 := fun k q hk2 => hPb (k + 1) q hk2
    refine lv_goto (tgt := 21) hx hb dL_chip_9 (by decide) ?_
    refine lv_iconst (v := 0) hx hb dL_chip_21 (by decide) ?_
    exact W.iret hx hb hr (fun t2 ht2 hW => ⟨⟨0, (v, vp_updL fo 0 r.toInt64), rfl, ⟨by rw [← hw]; rfl, by rw [← hw], fun _ => by rw [← hw]; rfl⟩, by show va_P (dC, dI) vwCl (wB x cI cZ v) t2.heap; rw [ht2]; exact hP2, by show va_P (dC, dI) vwCl (wO o cL (vp_updL fo 0 r.toInt64)) t2.heap; rw [ht2]; exact hO2⟩, hS4.F ht2⟩) hS4.2.2 dL_chip_22 hlocks

set_option maxHeartbeats 4000000 in
set_option maxRecDepth 100000 in
theorem c_L_v (l : Launch) (hst : l.stackTraces = false) (dC : Nat → ClassId) (dI : Nat → Nat → Nat) (cI cZ cL : ClassId) (x : Nat → Nat) (hi : g_inj 13 x) (sa : Nat → Nat) (u : BS) (o : Nat) (ho : ¬ g_bA 13 x o) (fo : Nat → Int64) (p0 : Int32) (hE : ∀ E, (f_X6_v u p0).1 = some E → E = x_NSE) : Met l yL_v (.codeWith yL_v cL_v 4 (some .int) [(0, 9, 12, 19)] :: gtbl) { frames := 7, cells := 1, slots := 6, locals := 111 } (va_Pc [.ref (x 0), .int p0, .ref o] (fun U => va_P (dC, dI) vwCl (wB x cI cZ u) U.heap ∧ va_K (dC, dI) vwCl (tys3 cI cZ cL) U ∧ xe (g_bA 13 x) sa U U.heap ∧ va_P (dC, dI) vwCl (wO o cL fo) U.heap ∧ True)) (va_Qi (fun r (v : BS × (Nat → Int64)) => r = kc (f_X6_v u p0).1 ∧ v.1 = (f_X6_v u p0).2.2 ∧ ((f_X6_v u p0).1 = none → v.2 0 = (f_X6_v u p0).2.1.toInt64)) (fun v t => va_P (dC, dI) vwCl (wB x cI cZ v.1) t.heap ∧ va_P (dC, dI) vwCl (wO o cL v.2) t.heap) (fun q => g_bA 13 x q ∨ q = o)) 1 6 (fun q => g_bA 13 x q ∨ q = o) := by
  refine va_MetW (hh := [(0, 9, 12, 19)]) (cc := cL_v) (maxL := 4) (ret := (some .int)) (by decide) rfl ?_
  intro p e s m args below meth c s₁ B hml hv
  obtain ⟨rfl, hP, hK, hxe, hO, -⟩ := hv
  have hx := B.exec
  have hb := B.bytes
  have hr := B.returns
  have hts := atoms_spec (ws := .codeWith yL_v cL_v 4 (some .int) [(0, 9, 12, 19)] :: gtbl) B.pre
  have hg : ∀ w ∈ gtbl, w.before _ s = true := fun w h => hts w (List.mem_cons_of_mem _ h)
  have hown : s.vm.findClass RL = some m.cls := findClass_of_methodNamed B.named
  have hlocks := B.notSynchronized
  have htab : c.exceptionTable.toList = tableOf [(0, 9, 12, 19)] := vx_table (x := yL_v) B (hts _ List.mem_cons_self)
  have hS : va_S (g_bA 13 x) s.heap s.heap [] := va_S.rf
  have hK2 : va_K (dC, dI) vwCl (tysW cI cZ) s := hK.sub [0, 1] rfl
  have hl := lv_entry ([.ref (x 0), .int p0, .ref o]) (n := 4) (Nat.le_of_ble_eq_true rfl)
  rw [lg_entry_eq]
  generalize (lg_sl ([.ref (x 0), .int p0, .ref o]) ++ List.replicate (4 - (lg_sl ([.ref (x 0), .int p0, .ref o])).length) Slot.unset).toArray = ls at hl ⊢
  have hl : lv_has ls 4 [(0, .ref (x 0)), (1, .int p0), (2, .ref o)] := hl
  obtain ⟨F, hF⟩ : ∃ F, f_X6_v u p0 = F := ⟨_, rfl⟩
  rw [hF] at hE
  rw [hF]
  refine lv_aload_n hx hb dL_v_0 rfl (lv_at hl 2 rfl) ?_
  refine lv_iconst (v := 0) hx hb dL_v_1 (by decide) ?_
  refine lv_aload_n hx hb dL_v_2 rfl (lv_at hl 0 rfl) ?_
  refine lv_iload_n hx hb dL_v_3 rfl (lv_at hl 1 rfl) ?_
  refine vx_calli (vx_runV (As := [.int p0]) (rest := [.int 0, .ref o]) ⟨hx, hb, hml, hown, hg⟩ (c_X6_v l hst dC dI cI cZ x hi sa u p0) (g_cwX hg cs_L_45 rfl rfl ⟨Nat.le_of_ble_eq_true rfl, Nat.le_of_ble_eq_true rfl⟩) ⟨g_blindX, va_recv hK hP (ci := 6) (q0 := 0) rfl rfl, fun U hU hW => ⟨rfl, by rw [hU]; exact hP, va_K.moved hW.alike hK2, xe_call hxe hS hU hW⟩⟩ rfl rfl hl.1 rfl (lv_room (Nat.le_of_ble_eq_true rfl)) dL_v_4 ⟨Nat.le_of_ble_eq_true rfl, Nat.le_of_ble_eq_true rfl⟩) hS (fun q _ h => h) (fun q h => h) (fun q _ h => h) (fun E ce q9 v t H1 locs1 ht hvm _ hB hz hk hS1 hce hcv hcl => ?_) (fun r v t H1 locs1 ht hvm hw hB hz hk hS1 => ?_)
  · have hP1 : va_P (dC, dI) vwCl (wB x cI cZ v) H1 := by rw [← ht]; exact hB.2
    have hO1 : va_P (dC, dI) vwCl (wO o cL fo) H1 := hO.kept (fun k q hk2 => by
      have hq : q.1 = o := by
        match k, hk2 with
        | 0, hk2 => cases hk2; rfl
      rw [hq]
      exact hk o (by have := (hO 0 _ rfl).lt; exact this) ho)
    have hS3 : va_S (fun q => g_bA 13 x q ∨ q = o) s.heap H1 locs1 := ⟨hS1.1, fun q h1 h2 => hS1.2.1 q h1 (fun h => h2 (Or.inl h)), fun z hz => Or.inl (hS1.2.2 z hz)⟩
    have hB1 := hB.1.trans hF
    have hEE := hE E (by rw [← hB1])
    subst hEE
    refine vx_catch (own := RL) (name := x_NSE) (E := x_NSE) hown [] ⟨0, 9, 12, 19⟩ [] htab (fun z hz => by cases hz) (by decide) (by decide) (hg _ kk_L_19) (kt_of hxe (by decide +kernel)) hce hcv hcl ?_
    refine lv_astore_n hx hb dL_v_12 rfl hl (by decide) rfl (fun ls hl => ?_)
    refine lv_iconst (v := 1) hx hb dL_v_13 (by decide) ?_
    exact W.iret hx hb hr (fun t2 ht2 hW => ⟨⟨1, (v, fo), rfl, ⟨by rw [← hB1]; exact kc_NSE.symm, by rw [← hB1], fun h => by rw [← hB1] at h; cases h⟩, by show va_P (dC, dI) vwCl (wB x cI cZ v) t2.heap; rw [ht2]; exact hP1, by show va_P (dC, dI) vwCl (wO o cL fo) t2.heap; rw [ht2]; exact hO1⟩, hS3.F ht2⟩) hS3.2.2 dL_v_14 hlocks
  · have hP1 : va_P (dC, dI) vwCl (wB x cI cZ v) H1 := by rw [← ht]; exact hB
    have hw := hw.trans hF
    have hO1 : va_P (dC, dI) vwCl (wO o cL fo) H1 := hO.kept (fun k q hk2 => by
      have hq : q.1 = o := by
        match k, hk2 with
        | 0, hk2 => cases hk2; rfl
      rw [hq]
      exact hk o (by have := (hO 0 _ rfl).lt; exact this) ho)
    have hS3 : va_S (fun q => g_bA 13 x q ∨ q = o) s.heap H1 locs1 := ⟨hS1.1, fun q h1 h2 => hS1.2.1 q h1 (fun h => h2 (Or.inl h)), fun z hz => Or.inl (hS1.2.2 z hz)⟩
    have hDo : va_D (fun q => g_bA 13 x q ∨ q = o) (wO o cL fo) := ⟨fun i j a b ha hb2 _ => by
      have h1 := (List.getElem?_eq_some_iff.mp ha).1
      have h2 := (List.getElem?_eq_some_iff.mp hb2).1
      simp only [wO, List.length_cons, List.length_nil] at h1 h2
      omega, fun k q hk2 => by
      match k, hk2 with
      | 0, hk2 => cases hk2; exact Or.inr rfl⟩
    refine lv_i2l hx hb dL_v_7 rfl ?_
    have hDw : va_D (fun q => g_bA 13 x q ∨ q = o) (wB x cI cZ v) := (wB_D hi v).weaken (fun _ _ _ h => Or.inl h)
    have hDa : va_D (fun q => g_bA 13 x q ∨ q = o) (wO o cL fo ++ wB x cI cZ v) := hDo.app hDw (fun i j a b ha hb2 hab => ho (by
      have h1 : a.1 = o := by
        match i, ha with
        | 0, ha => cases ha; rfl
      rw [← h1, hab]
      exact (wB_D hi v).2 j b hb2))
    have hPa : va_P (dC, dI) vwCl (wO o cL fo ++ wB x cI cZ v) H1 := hO1.app hP1
    refine va_last (D := (dC, dI)) hx hb hK hPa hDa hS3 0 2 rfl rfl (i := 0) (by unfold vp_in; decide) dL_v_8 (fun H2 locs2 hPb _ hS4 => ?_)
    have hPb : va_P (dC, dI) vwCl (wO o cL (vp_updL fo 0 r.toInt64) ++ wB x cI cZ v) H2 := hPb
    have hO2 : va_P (dC, dI) vwCl (wO o cL (vp_updL fo 0 r.toInt64)) H2 := hPb.sub [0] rfl
    have hP2 : va_P (dC, dI) vwCl (wB x cI cZ v) H2 := fun k q hk2 => hPb (k + 1) q hk2
    refine lv_goto (tgt := 15) hx hb dL_v_9 (by decide) ?_
    refine lv_iconst (v := 0) hx hb dL_v_15 (by decide) ?_
    exact W.iret hx hb hr (fun t2 ht2 hW => ⟨⟨0, (v, vp_updL fo 0 r.toInt64), rfl, ⟨by rw [← hw]; rfl, by rw [← hw], fun _ => by rw [← hw]; rfl⟩, by show va_P (dC, dI) vwCl (wB x cI cZ v) t2.heap; rw [ht2]; exact hP2, by show va_P (dC, dI) vwCl (wO o cL (vp_updL fo 0 r.toInt64)) t2.heap; rw [ht2]; exact hO2⟩, hS4.F ht2⟩) hS4.2.2 dL_v_16 hlocks

