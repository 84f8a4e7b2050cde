
theorem g_injOf {A : Nat → Prop} {ws : va_W} {n : Nat} {x : Nat → Nat} (hD : va_D A ws) (h : ws.map Prod.fst = (List.range n).map x) : g_inj n x := by
  intro i j hi hj hx
  have key : ∀ k, k < n → ∃ q, ws[k]? = some q ∧ q.1 = x k := by
    intro k hk
    have h1 : (ws.map Prod.fst)[k]? = some (x k) := by rw [h, List.getElem?_map, List.getElem?_range hk]; rfl
    rw [List.getElem?_map] at h1
    cases h2 : ws[k]? with
    | none => rw [h2] at h1; cases h1
    | some q => rw [h2] at h1; exact ⟨q, rfl, Option.some.inj h1⟩
  obtain ⟨p, hp, hp1⟩ := key i hi
  obtain ⟨q, hq, hq1⟩ := key j hj
  exact hD.1 i j p q hp hq (by rw [hp1, hq1, hx])
section GC
variable {p : Program} {l : Launch} {e : Env} {R : Room} {s : State} {m : MethodId} {args : Array Value} {below : List Frame} {meth : Method} {c : Code} {H H0 : Heap} {locs : List Loc} {cells slots : Nat} {Q : State → Prop}
variable {D : va_G} {cl : List vw_C} {tys : List (ClassId × FieldType)} {A : Nat → Prop} {ws : va_W} {cc : ByteArray} {pc : Nat} {ls : Array Slot} {rest : List Value}
theorem g_newI (cI : ClassId) (t0 : Nat) (N' : Nat) (hx : p.tables.exec = Jvm.exec) (hb : c.code = cc) (harr : (Cond.arrayClass .int).before args s = true) (hK : va_K D cl tys s) (ht : tys[t0]? = some (cI, .int)) (hP : va_P D cl ws H) (hD : va_D A ws) (hS : va_S A H0 H locs) (hA : ∀ q, H0.size ≤ q → A q)
    {n : Int32} (hn : (¬ n < 0) ∧ n.toNatClampNeg = N' ∧ N' * componentBytes .int ≤ 536870912) (hcells : cells + 1 ≤ R.cells) (hslots : slots + N' ≤ R.slots) (hdg : decode cc pc = .ok (.newarray .int, 2))
    (kk : ∀ (q : Nat) (H : Heap), va_P D cl (ws ++ [(q, .inl (cI, N', .inl (fun _ => 0)))]) H → va_D A (ws ++ [(q, .inl (cI, N', .inl (fun _ => 0)))]) → va_S A H0 H locs → W p l e R s m args below meth c H locs (cells + 1) (slots + N') Q (F0 m (pc + 2) ls (.ref q :: rest))) : W p l e R s m args below meth c H locs cells slots Q (F0 m pc ls (.int n :: rest)) := by
  refine va_newa (atype := .int) (ty := .int) (a0 := (N', .inl (fun _ => 0))) hx hb harr rfl hK hP hD hS hA (fun cA => rfl) hn.1 hn.2.1 hn.2.2 hcells hslots hdg (fun q cA H1 hK1 hP1 hD1 hS1 => ?_)
  have h1 : s.vm.findClass ("[" ++ (FieldType.int).toString) = some cA := (hK1.2 tys.length (cA, .int) (by simp)).2
  have h2 : s.vm.findClass ("[" ++ (FieldType.int).toString) = some cI := (hK.2 t0 _ ht).2
  cases Option.some.inj (h1.symm.trans h2)
  exact kk q H1 hP1 hD1 hS1
theorem g_newZ (cZ : ClassId) (t0 : Nat) (N' : Nat) (hx : p.tables.exec = Jvm.exec) (hb : c.code = cc) (harr : (Cond.arrayClass .boolean).before args s = true) (hK : va_K D cl tys s) (ht : tys[t0]? = some (cZ, .boolean)) (hP : va_P D cl ws H) (hD : va_D A ws) (hS : va_S A H0 H locs) (hA : ∀ q, H0.size ≤ q → A q)
    {n : Int32} (hn : (¬ n < 0) ∧ n.toNatClampNeg = N' ∧ N' * componentBytes .boolean ≤ 536870912) (hcells : cells + 1 ≤ R.cells) (hslots : slots + N' ≤ R.slots) (hdg : decode cc pc = .ok (.newarray .boolean, 2))
    (kk : ∀ (q : Nat) (H : Heap), va_P D cl (ws ++ [(q, .inl (cZ, N', .inl (fun _ => 0)))]) H → va_D A (ws ++ [(q, .inl (cZ, N', .inl (fun _ => 0)))]) → va_S A H0 H locs → W p l e R s m args below meth c H locs (cells + 1) (slots + N') Q (F0 m (pc + 2) ls (.ref q :: rest))) : W p l e R s m args below meth c H locs cells slots Q (F0 m pc ls (.int n :: rest)) := by
  refine va_newa (atype := .boolean) (ty := .boolean) (a0 := (N', .inl (fun _ => 0))) hx hb harr rfl hK hP hD hS hA (fun cA => rfl) hn.1 hn.2.1 hn.2.2 hcells hslots hdg (fun q cA H1 hK1 hP1 hD1 hS1 => ?_)
  have h1 : s.vm.findClass ("[" ++ (FieldType.boolean).toString) = some cA := (hK1.2 tys.length (cA, .boolean) (by simp)).2
  have h2 : s.vm.findClass ("[" ++ (FieldType.boolean).toString) = some cZ := (hK.2 t0 _ ht).2
  cases Option.some.inj (h1.symm.trans h2)
  exact kk q H1 hP1 hD1 hS1
end GC
/-- before a constructor, and behind it -/
abbrev k_Pc (D : va_G) (cI cZ : ClassId) (av : List Value) (sz : Nat) (ws : va_W) (E : State → Prop) : Array Value → State → Prop := va_Pc av (fun U => U.heap.size = sz ∧ va_P D vwCl ws U.heap ∧ va_K D vwCl (tysW cI cZ) U ∧ va_D (fun _ => True) ws ∧ E U)
theorem g_gi (cm : Cond) (y : MethodName) {bytes : ByteArray} {maxL : Nat} {ret : Option FieldType} (h : .code y bytes maxL ret ∈ gtbl) : GoodIn gtbl (.code y bytes maxL ret :: gtbl) := gt_goodIn (fun _ h => h) (fun q hq => by
  rcases List.mem_cons.mp hq with rfl | h1
  · exact h
  · exact h1)
theorem kO_cc : (.code objectInit ⟨#[0xb1]⟩ 1 none : Cond) ∈ gtbl := gt_of 117 (by decide +kernel) (by decide +kernel)
theorem kO_ii : (.instanceMethod objectInit : Cond) ∈ gtbl := gt_of 116 (by decide +kernel) (by decide +kernel)
theorem ko_X6 : (.methodLink RX6 1 objectInit : Cond) ∈ gtbl := gt_of 115 (by decide +kernel) (by decide +kernel)
theorem ko_X2 : (.methodLink RX2 1 objectInit : Cond) ∈ gtbl := gt_of 123 (by decide +kernel) (by decide +kernel)
theorem ko_X0 : (.methodLink RX0 1 objectInit : Cond) ∈ gtbl := gt_of 134 (by decide +kernel) (by decide +kernel)
theorem ko_X5 : (.methodLink RX5 1 objectInit : Cond) ∈ gtbl := gt_of 148 (by decide +kernel) (by decide +kernel)
theorem ko_X3 : (.methodLink RX3 1 objectInit : Cond) ∈ gtbl := gt_of 161 (by decide +kernel) (by decide +kernel)
theorem ko_X4 : (.methodLink RX4 1 objectInit : Cond) ∈ gtbl := gt_of 192 (by decide +kernel) (by decide +kernel)
theorem ko_X1 : (.methodLink RX1 1 objectInit : Cond) ∈ gtbl := gt_of 235 (by decide +kernel) (by decide +kernel)
theorem ko_X7 : (.methodLink RX7 1 objectInit : Cond) ∈ gtbl := gt_of 855 (by decide +kernel) (by decide +kernel)
