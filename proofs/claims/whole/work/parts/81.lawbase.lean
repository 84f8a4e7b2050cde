/-! the law's own rows: it holds two worlds and its row of one long; each call changes one of them alone -/
abbrev l_A (s : State) : Nat → Prop := fun q => s.heap.size ≤ q
/-- where the cells lie: new ones, and apart -/
def l_ad (s : State) (x y : Nat → Nat) (o : Nat) : Prop := g_inj 13 x ∧ g_inj 7 y ∧ (∀ q, g_bA 13 x q → s.heap.size ≤ q) ∧ (∀ q, g_bA 7 y q → s.heap.size ≤ q) ∧ s.heap.size ≤ o ∧ (∀ q, g_bA 13 x q → ¬ g_bA 7 y q) ∧ (¬ g_bA 13 x o) ∧ ¬ g_bA 7 y o
theorem l_kept {D : va_G} {cl : List vw_C} {ws : va_W} {H H1 : Heap} {A1 : Nat → Prop} (hP : va_P D cl ws H) (hA : ∀ (k : Nat) (q : Nat × va_E), ws[k]? = some q → ¬ A1 q.1) (hk : ∀ q : Nat, q < H.size → ¬ A1 q → H1[q]? = H[q]?) : va_P D cl ws H1 := hP.kept (fun k q hq => hk q.1 (hP k q hq).lt (hA k q hq))
theorem l_wO {o : Nat} {cL : ClassId} {f : Nat → Int64} {k : Nat} {q : Nat × va_E} (h : (wO o cL f)[k]? = some q) : q.1 = o := by
  match k, h with
  | 0, h => cases h; rfl
section LB
variable {p : Program} {l : Launch} {e : Env} {R : Room} {s : State} {m : MethodId} {args : Array Value} {below : List Frame} {meth : Method} {c : Code} {H : Heap} {locs : List Loc} {cells slots : Nat} {Q : State → Prop}
variable {dC : Nat → ClassId} {dI : Nat → Nat → Nat} {cI cZ cL : ClassId} {x y : Nat → Nat} {o : Nat} {sa : Nat → Nat} {u : BS} {v : MS} {fo : Nat → Int64}
variable {cc bytes : ByteArray} {nL maxL index n : Nat} {own C : String} {ym : MethodName} {ret : Option FieldType} {rm : Room} {pc : Nat} {ls : Array Slot} {As rest st0 : List Value} {hh : List (Nat × Nat × Nat × Nat)}
theorem l_xe {U : State} (ad : l_ad s x y o) (hxe : xe (l_A s) sa s s.heap) (hS : va_S (l_A s) s.heap H locs) (hU : U.heap = H) (hW : s.WarmedH U.vm) : xe (g_bA 13 x) sa U U.heap := by
  rw [hU]
  exact xe_warm hW (xe_narrow (xe_kept hxe hS.2.1) (fun q h => ad.2.2.1 q h))
/-- a helper without the row -/
theorem l_h0 {k : Int32} {u' : BS} (ad : l_ad s x y o) (hx : p.tables.exec = Jvm.exec) (hb : c.code = cc) (hml : c.maxLocals = nL) (hown : s.vm.findClass own = some m.cls) (hg : ∀ w ∈ gtbl, w.before args s = true)
    (hM : Met l ym (.codeWith ym bytes maxL ret hh :: gtbl) rm (va_Pc As (fun U => va_P (dC, dI) vwCl (wB x cI cZ u) U.heap ∧ va_K (dC, dI) vwCl (tysW cI cZ) U ∧ xe (g_bA 13 x) sa U U.heap)) (va_Qi (fun r (z : BS) => r = k ∧ z = u') (fun z t => va_P (dC, dI) vwCl (wB x cI cZ z) t.heap) (g_bA 13 x)) 1 6 (g_bA 13 x))
    (cw : vx_CSW R s args own index ym bytes maxL ret hh (.codeWith ym bytes maxL ret hh :: gtbl) rm 1 6 n) (hK : va_K (dC, dI) vwCl (tys3 cI cZ cL) s) (hxe : xe (l_A s) sa s s.heap) (hP : va_P (dC, dI) vwCl (wB x cI cZ u) H) (hM2 : va_P (dC, dI) vwCl (wM y cI cZ v) H) (hO : va_P (dC, dI) vwCl (wO o cL fo) H) (hS : va_S (l_A s) s.heap H locs)
    (hn : As.length = n) (hsize : ls.size = nL) (hst : st0 = As.reverse ++ rest) (hW : (rest.map fun v => v.category).sum ≤ 8) (hdg : decode cc pc = .ok (.invokestatic index, 3)) (hf : cells + 1 ≤ R.cells ∧ slots + 6 ≤ R.slots)
    (kk : ∀ (H1 : Heap) (locs1 : List Loc), va_P (dC, dI) vwCl (wB x cI cZ u') H1 → va_P (dC, dI) vwCl (wM y cI cZ v) H1 → va_P (dC, dI) vwCl (wO o cL fo) H1 → va_S (l_A s) s.heap H1 locs1 → W p l e R s m args below meth c H1 locs1 (cells + 1) (slots + 6) Q (F0 m (pc + 3) ls (.int k :: rest))) : W p l e R s m args below meth c H locs cells slots Q (F0 m pc ls st0) := by
  refine va_calli (A0 := l_A s) (H0 := s.heap) (vx_runSW (As := As) (rest := rest) ⟨hx, hb, hml, hown, hg⟩ hM cw ⟨fun a U g mk q => ⟨q.1, q.2.1, va_K.moved (u := U) (U := U.calling g mk a) (Vm.Alike.refl U.vm) q.2.2.1, xe_same (u := U) (U := U.calling g mk a) rfl q.2.2.2⟩, fun U hU hW' => ⟨rfl, by rw [hU]; exact hP, va_K.moved hW'.alike (hK.sub [0, 1] rfl), l_xe ad hxe hS hU hW'⟩⟩ rfl hn hsize hst (lv_room hW) hdg hf) hS (fun q _ h => ad.2.2.1 q h) (fun q h => ad.2.2.1 q h) (fun r1 v1 t H1 locs1 ht hvm hw hB hz hk hS1 => ?_)
  obtain ⟨rfl, rfl⟩ := hw
  rw [ht] at hB
  exact kk H1 locs1 hB (l_kept hM2 (fun i q hq h => ad.2.2.2.2.2.1 q.1 h ((wM_D ad.2.1 v).2 i q hq)) hk) (l_kept hO (fun i q hq h => ad.2.2.2.2.2.2.1 (by rw [← l_wO hq]; exact h)) hk) hS1
/-- a helper with the row -/
theorem l_h1 {k : Int32} {F : Option String × Int32 × BS} {EX : State → Prop} (hEX : ∀ U : State, s.WarmedH U.vm → EX U) (hEb : ∀ (U : State) (g : JFrame) (mk : MethodId) (a : Array Value), EX U → EX (U.calling g mk a)) (ad : l_ad s x y o) (hx : p.tables.exec = Jvm.exec) (hb : c.code = cc) (hml : c.maxLocals = nL) (hown : s.vm.findClass own = some m.cls) (hg : ∀ w ∈ gtbl, w.before args s = true)
    (hM : Met l ym (.codeWith ym bytes maxL ret hh :: gtbl) rm (va_Pc As (fun U => va_P (dC, dI) vwCl (wB x cI cZ u) U.heap ∧ va_K (dC, dI) vwCl (tys3 cI cZ cL) U ∧ xe (g_bA 13 x) sa U U.heap ∧ va_P (dC, dI) vwCl (wO o cL fo) U.heap ∧ EX U)) (va_Qi (fun r (z : BS × (Nat → Int64)) => r = k ∧ z.1 = F.2.2 ∧ (F.1 = none → z.2 0 = F.2.1.toInt64)) (fun z t => va_P (dC, dI) vwCl (wB x cI cZ z.1) t.heap ∧ va_P (dC, dI) vwCl (wO o cL z.2) t.heap) (fun q => g_bA 13 x q ∨ q = o)) 1 6 (fun q => g_bA 13 x q ∨ q = o))
    (cw : vx_CSW R s args own index ym bytes maxL ret hh (.codeWith ym bytes maxL ret hh :: gtbl) rm 1 6 n) (hK : va_K (dC, dI) vwCl (tys3 cI cZ cL) s) (hxe : xe (l_A s) sa s s.heap) (hP : va_P (dC, dI) vwCl (wB x cI cZ u) H) (hM2 : va_P (dC, dI) vwCl (wM y cI cZ v) H) (hO : va_P (dC, dI) vwCl (wO o cL fo) H) (hS : va_S (l_A s) s.heap H locs)
    (hn : As.length = n) (hsize : ls.size = nL) (hst : st0 = As.reverse ++ rest) (hW : (rest.map fun v => v.category).sum ≤ 8) (hdg : decode cc pc = .ok (.invokestatic index, 3)) (hf : cells + 1 ≤ R.cells ∧ slots + 6 ≤ R.slots)
    (kk : ∀ (fo : Nat → Int64) (H1 : Heap) (locs1 : List Loc), (F.1 = none → fo 0 = F.2.1.toInt64) → va_P (dC, dI) vwCl (wB x cI cZ F.2.2) H1 → va_P (dC, dI) vwCl (wM y cI cZ v) H1 → va_P (dC, dI) vwCl (wO o cL fo) H1 → va_S (l_A s) s.heap H1 locs1 → W p l e R s m args below meth c H1 locs1 (cells + 1) (slots + 6) Q (F0 m (pc + 3) ls (.int k :: rest))) : W p l e R s m args below meth c H locs cells slots Q (F0 m pc ls st0) := by
  refine va_calli (A0 := l_A s) (H0 := s.heap) (vx_runSW (As := As) (rest := rest) ⟨hx, hb, hml, hown, hg⟩ hM cw ⟨fun a U g mk q => ⟨q.1, q.2.1, va_K.moved (u := U) (U := U.calling g mk a) (Vm.Alike.refl U.vm) q.2.2.1, xe_same (u := U) (U := U.calling g mk a) rfl q.2.2.2.1, q.2.2.2.2.1, hEb U g mk a q.2.2.2.2.2⟩, fun U hU hW' => ⟨rfl, by rw [hU]; exact hP, va_K.moved hW'.alike hK, l_xe ad hxe hS hU hW', by rw [hU]; exact hO, hEX U hW'⟩⟩ rfl hn hsize hst (lv_room hW) hdg hf) hS (fun q _ h => h.elim (ad.2.2.1 q) (fun h => by rw [h]; exact ad.2.2.2.2.1)) (fun q h => h.elim (ad.2.2.1 q) (fun h => by rw [h]; exact ad.2.2.2.2.1)) (fun r1 v1 t H1 locs1 ht hvm hw hB hz hk hS1 => ?_)
  obtain ⟨rfl, hw1, hw2⟩ := hw
  obtain ⟨hB1, hB2⟩ := hB
  rw [ht, hw1] at hB1
  rw [ht] at hB2
  exact kk v1.2 H1 locs1 hw2 hB1 (l_kept hM2 (fun i q hq h => h.elim (fun h => ad.2.2.2.2.2.1 q.1 h ((wM_D ad.2.1 v).2 i q hq)) (fun h => ad.2.2.2.2.2.2.2 (by rw [← h]; exact (wM_D ad.2.1 v).2 i q hq))) hk) hB2 hS1
/-- a call of the model, void -/
theorem l_mv {v' : MS} {b : Nat} (ad : l_ad s x y o) (hx : p.tables.exec = Jvm.exec) (hb : c.code = cc) (hml : c.maxLocals = nL) (hown : s.vm.findClass own = some m.cls) (hg : ∀ w ∈ gtbl, w.before args s = true)
    (hM : g_Mv l ym (.code ym bytes maxL ret) rm (dC, dI) vwCl (tysW cI cZ) (wM y cI cZ) (g_bA 7 y) v (.ref b :: As) v') (hs : g_site own RX7 index ym bytes maxL ret n) (hrc : rm.cells = 0) (hrs : rm.slots = 0) (hR : rm.frames + 1 ≤ R.frames ∧ 8 + (maxL + 11) + rm.locals ≤ R.locals) (hK : va_K (dC, dI) vwCl (tys3 cI cZ cL) s) (hP : va_P (dC, dI) vwCl (wB x cI cZ u) H) (hM2 : va_P (dC, dI) vwCl (wM y cI cZ v) H) (hO : va_P (dC, dI) vwCl (wO o cL fo) H) (hS : va_S (l_A s) s.heap H locs) (hby : b = y 0)
    (hn : As.length = n) (hsize : ls.size = nL) (hst : st0 = As.reverse ++ .ref b :: rest) (hW : (rest.map fun v => v.category).sum ≤ 8) (hdg : decode cc pc = .ok (.invokevirtual index, 3)) (hf : cells ≤ R.cells ∧ slots ≤ R.slots)
    (kk : ∀ (H1 : Heap) (locs1 : List Loc), va_P (dC, dI) vwCl (wB x cI cZ u) H1 → va_P (dC, dI) vwCl (wM y cI cZ v') H1 → va_P (dC, dI) vwCl (wO o cL fo) H1 → va_S (l_A s) s.heap H1 locs1 → W p l e R s m args below meth c H1 locs1 cells slots Q (F0 m (pc + 3) ls rest)) : W p l e R s m args below meth c H locs cells slots Q (F0 m pc ls st0) := by
  subst hby
  refine va_callv (A0 := l_A s) (H0 := s.heap) (va_runV (As := As) (rest := rest) ⟨hx, hb, hml, hown, hg⟩ hM (g_cw hg hs hrc hrs hR) ⟨g_blind, va_recv hK hM2 (ci := 7) (q0 := 0) rfl rfl, fun U hU hW' => ⟨rfl, by rw [hU]; exact hM2, va_K.moved hW'.alike (hK.sub [0, 1] rfl)⟩⟩ rfl hn hsize hst (lv_room hW) hdg hf) hS (fun q _ h => ad.2.2.2.1 q h) (fun q h => ad.2.2.2.1 q h) (fun v1 t H1 locs1 ht hvm hw hB hz hk hS1 => ?_)
  obtain rfl := hw
  rw [ht] at hB
  exact kk H1 locs1 (l_kept hP (fun i q hq h => ad.2.2.2.2.2.1 q.1 ((wB_D ad.1 u).2 i q hq) h) hk) hB (l_kept hO (fun i q hq h => ad.2.2.2.2.2.2.2 (by rw [← l_wO hq]; exact h)) hk) hS1
theorem l_mi {r : Int32} {v' : MS} {b : Nat} (ad : l_ad s x y o) (hx : p.tables.exec = Jvm.exec) (hb : c.code = cc) (hml : c.maxLocals = nL) (hown : s.vm.findClass own = some m.cls) (hg : ∀ w ∈ gtbl, w.before args s = true)
    (hM : g_Mi l ym (.code ym bytes maxL ret) rm (dC, dI) vwCl (tysW cI cZ) (wM y cI cZ) (g_bA 7 y) v (.ref b :: As) r v') (hs : g_site own RX7 index ym bytes maxL ret n) (hrc : rm.cells = 0) (hrs : rm.slots = 0) (hR : rm.frames + 1 ≤ R.frames ∧ 8 + (maxL + 11) + rm.locals ≤ R.locals) (hK : va_K (dC, dI) vwCl (tys3 cI cZ cL) s) (hP : va_P (dC, dI) vwCl (wB x cI cZ u) H) (hM2 : va_P (dC, dI) vwCl (wM y cI cZ v) H) (hO : va_P (dC, dI) vwCl (wO o cL fo) H) (hS : va_S (l_A s) s.heap H locs) (hby : b = y 0)
    (hn : As.length = n) (hsize : ls.size = nL) (hst : st0 = As.reverse ++ .ref b :: rest) (hW : (rest.map fun v => v.category).sum ≤ 8) (hdg : decode cc pc = .ok (.invokevirtual index, 3)) (hf : cells ≤ R.cells ∧ slots ≤ R.slots)
    (kk : ∀ (H1 : Heap) (locs1 : List Loc), va_P (dC, dI) vwCl (wB x cI cZ u) H1 → va_P (dC, dI) vwCl (wM y cI cZ v') H1 → va_P (dC, dI) vwCl (wO o cL fo) H1 → va_S (l_A s) s.heap H1 locs1 → W p l e R s m args below meth c H1 locs1 cells slots Q (F0 m (pc + 3) ls (.int r :: rest))) : W p l e R s m args below meth c H locs cells slots Q (F0 m pc ls st0) := by
  subst hby
  refine va_calli (A0 := l_A s) (H0 := s.heap) (va_runV (As := As) (rest := rest) ⟨hx, hb, hml, hown, hg⟩ hM (g_cw hg hs hrc hrs hR) ⟨g_blind, va_recv hK hM2 (ci := 7) (q0 := 0) rfl rfl, fun U hU hW' => ⟨rfl, by rw [hU]; exact hM2, va_K.moved hW'.alike (hK.sub [0, 1] rfl)⟩⟩ rfl hn hsize hst (lv_room hW) hdg hf) hS (fun q _ h => ad.2.2.2.1 q h) (fun q h => ad.2.2.2.1 q h) (fun r1 v1 t H1 locs1 ht hvm hw hB hz hk hS1 => ?_)
  obtain ⟨rfl, rfl⟩ := hw
  rw [ht] at hB
  exact kk H1 locs1 (l_kept hP (fun i q hq h => ad.2.2.2.2.2.1 q.1 ((wB_D ad.1 u).2 i q hq) h) hk) hB (l_kept hO (fun i q hq h => ad.2.2.2.2.2.2.2 (by rw [← l_wO hq]; exact h)) hk) hS1
/-- a call of the board that only answers (peek) -/
theorem l_bi {r : Int32} {b : Nat} (ad : l_ad s x y o) (hx : p.tables.exec = Jvm.exec) (hb : c.code = cc) (hml : c.maxLocals = nL) (hown : s.vm.findClass own = some m.cls) (hg : ∀ w ∈ gtbl, w.before args s = true)
    (hM : g_Mi l ym (.code ym bytes maxL ret) rm (dC, dI) vwCl (tysW cI cZ) (wB x cI cZ) (g_bA 13 x) u (.ref b :: As) r u) (hs : g_site own RX6 index ym bytes maxL ret n) (hrc : rm.cells = 0) (hrs : rm.slots = 0) (hR : rm.frames + 1 ≤ R.frames ∧ 8 + (maxL + 11) + rm.locals ≤ R.locals) (hK : va_K (dC, dI) vwCl (tys3 cI cZ cL) s) (hP : va_P (dC, dI) vwCl (wB x cI cZ u) H) (hM2 : va_P (dC, dI) vwCl (wM y cI cZ v) H) (hO : va_P (dC, dI) vwCl (wO o cL fo) H) (hS : va_S (l_A s) s.heap H locs) (hby : b = x 0)
    (hn : As.length = n) (hsize : ls.size = nL) (hst : st0 = As.reverse ++ .ref b :: rest) (hW : (rest.map fun v => v.category).sum ≤ 8) (hdg : decode cc pc = .ok (.invokevirtual index, 3)) (hf : cells ≤ R.cells ∧ slots ≤ R.slots)
    (kk : ∀ (H1 : Heap) (locs1 : List Loc), va_P (dC, dI) vwCl (wB x cI cZ u) H1 → va_P (dC, dI) vwCl (wM y cI cZ v) H1 → va_P (dC, dI) vwCl (wO o cL fo) H1 → va_S (l_A s) s.heap H1 locs1 → W p l e R s m args below meth c H1 locs1 cells slots Q (F0 m (pc + 3) ls (.int r :: rest))) : W p l e R s m args below meth c H locs cells slots Q (F0 m pc ls st0) := by
  subst hby
  refine va_calli (A0 := l_A s) (H0 := s.heap) (va_runV (As := As) (rest := rest) ⟨hx, hb, hml, hown, hg⟩ hM (g_cw hg hs hrc hrs hR) ⟨g_blind, va_recv hK hP (ci := 6) (q0 := 0) rfl rfl, fun U hU hW' => ⟨rfl, by rw [hU]; exact hP, va_K.moved hW'.alike (hK.sub [0, 1] rfl)⟩⟩ rfl hn hsize hst (lv_room hW) hdg hf) hS (fun q _ h => ad.2.2.1 q h) (fun q h => ad.2.2.1 q h) (fun r1 v1 t H1 locs1 ht hvm hw hB hz hk hS1 => ?_)
  obtain ⟨rfl, rfl⟩ := hw
  rw [ht] at hB
  exact kk H1 locs1 hB (l_kept hM2 (fun i q hq h => ad.2.2.2.2.2.1 q.1 h ((wM_D ad.2.1 v).2 i q hq)) hk) (l_kept hO (fun i q hq h => ad.2.2.2.2.2.2.1 (by rw [← l_wO hq]; exact h)) hk) hS1
end LB
