theorem g_p1 {α β : Type} {a : α} {b : β} {F : α × β} (h : (a, b) = F) : a = F.1 := by rw [← h]
theorem g_p2 {α β : Type} {a : α} {b : β} {F : α × β} (h : (a, b) = F) : b = F.2 := by rw [← h]
section SW
variable {p : Program} {l : Launch} {e : Env} {R : Room} {s : State} {m : MethodId} {args : Array Value} {below : List Frame} {meth : Method} {c : Code} {H : Heap} {locs : List Loc} {cells slots : Nat} {Q : State → Prop}
variable {cc : ByteArray} {pc : Nat} {ls : Array Slot} {rest : List Value}
theorem sw_case {x : Int32} (v : Int32) (a : x = v → W p l e R s m args below meth c H locs cells slots Q (F0 m pc ls (.int x :: rest))) (b : ¬ x = v → W p l e R s m args below meth c H locs cells slots Q (F0 m pc ls (.int x :: rest))) : W p l e R s m args below meth c H locs cells slots Q (F0 m pc ls (.int x :: rest)) := by
  by_cases h : x = v
  · exact a h
  · exact b h
theorem sw_in {dflt lo hi : Int} {offs : Array Int} {len : Nat} {x : Int32} {off : Int} {tgt : Nat} (v : Int32) (hx : p.tables.exec = Jvm.exec) (hb : c.code = cc) (hdg : decode cc pc = .ok (.tableswitch dflt lo hi offs, len)) (hv : x = v)
    (h : (¬ v.toInt < lo) ∧ (¬ hi < v.toInt) ∧ offs[(v.toInt - lo).toNat]? = some off) (ht : (pc : Int) + off = (tgt : Int)) (k : W p l e R s m args below meth c H locs cells slots Q (F0 m tgt ls rest)) : W p l e R s m args below meth c H locs cells slots Q (F0 m pc ls (.int x :: rest)) := by
  subst hv
  exact lv_tableIn hx hb hdg h.1 h.2.1 h.2.2 ht k
theorem sw_def {dflt lo hi : Int} {offs : Array Int} {len : Nat} {x : Int32} {tgt : Nat} (hd : List Int32) (hx : p.tables.exec = Jvm.exec) (hb : c.code = cc) (hdg : decode cc pc = .ok (.tableswitch dflt lo hi offs, len)) (hne : ∀ v ∈ hd, ¬ x = v)
    (hall : ∀ j, j < (hi - lo + 1).toNat → Int32.ofInt (lo + (j : Int)) ∈ hd ∨ offs[j]? = some dflt) (ht : (pc : Int) + dflt = (tgt : Int)) (k : W p l e R s m args below meth c H locs cells slots Q (F0 m tgt ls rest)) : W p l e R s m args below meth c H locs cells slots Q (F0 m pc ls (.int x :: rest)) := by
  by_cases h : x.toInt < lo ∨ hi < x.toInt
  · exact lv_tableOut hx hb hdg h ht k
  · have h1 : ¬ x.toInt < lo := fun z => h (Or.inl z)
    have h2 : ¬ hi < x.toInt := fun z => h (Or.inr z)
    have h3 : (lo + ((x.toInt - lo).toNat : Int)) = x.toInt := by omega
    rcases hall (x.toInt - lo).toNat (by omega) with h4 | h4
    · rw [h3, Int32.ofInt_toInt] at h4
      exact absurd rfl (hne x h4)
    · exact lv_tableIn hx hb hdg h1 h2 h4 ht k
theorem sw_lin {dflt : Int} {ps : Array (Int × Int)} {len : Nat} {x : Int32} {off : Int} {tgt : Nat} (v : Int32) (hx : p.tables.exec = Jvm.exec) (hb : c.code = cc) (hdg : decode cc pc = .ok (.lookupswitch dflt ps, len)) (hv : x = v)
    (h : (ps.toList.zip (ps.toList.drop 1)).all (fun (a, next) => a.1 < next.1) = true ∧ Op.lookupswitch.offset ps.toList dflt v.toInt = off) (ht : (pc : Int) + off = (tgt : Int)) (k : W p l e R s m args below meth c H locs cells slots Q (F0 m tgt ls rest)) : W p l e R s m args below meth c H locs cells slots Q (F0 m pc ls (.int x :: rest)) := by
  subst hv
  exact lv_lookup hx hb hdg h.1 h.2 ht k
theorem sw_off {ls : List (Int × Int)} {dflt : Int} {x : Int32} (h : ∀ q ∈ ls, ¬ x = Int32.ofInt q.1 ∨ ¬ x.toInt = q.1) : Op.lookupswitch.offset ls dflt x.toInt = dflt := by
  induction ls with
  | nil => rfl
  | cons a t ih =>
    obtain ⟨a1, a2⟩ := a
    rw [Op.lookupswitch.offset_cons, if_neg ?_]
    · exact ih (fun q hq => h q (List.mem_cons_of_mem _ hq))
    · intro e1
      rcases h (a1, a2) List.mem_cons_self with h1 | h1
      · exact h1 (by show x = Int32.ofInt a1; rw [e1, Int32.ofInt_toInt])
      · exact h1 e1.symm
theorem sw_ldf {dflt : Int} {ps : Array (Int × Int)} {len : Nat} {x : Int32} {tgt : Nat} (hd : List Int32) (hx : p.tables.exec = Jvm.exec) (hb : c.code = cc) (hdg : decode cc pc = .ok (.lookupswitch dflt ps, len)) (hne : ∀ v ∈ hd, ¬ x = v)
    (h : (ps.toList.zip (ps.toList.drop 1)).all (fun (a, next) => a.1 < next.1) = true ∧ ∀ q ∈ ps.toList, Int32.ofInt q.1 ∈ hd) (ht : (pc : Int) + dflt = (tgt : Int)) (k : W p l e R s m args below meth c H locs cells slots Q (F0 m tgt ls rest)) : W p l e R s m args below meth c H locs cells slots Q (F0 m pc ls (.int x :: rest)) :=
  lv_lookup hx hb hdg h.1 (sw_off (fun q hq => Or.inl (hne _ (h.2 q hq)))) ht k
end SW
