def f_X1_restart (u : BS) (p0 : Int32) : BS :=
  let u1 : BS := bs_pc u p0
  let u2 : BS := bs_depth u1 0
  u2
set_option maxHeartbeats 4000000 in
set_option maxRecDepth 100000 in
theorem c_X1_restart (l : Launch) (dC : Nat → ClassId) (dI : Nat → Nat → Nat) (cI cZ : ClassId) (x : Nat → Nat) (hi : g_inj 13 x) (u : BS) (p0 : Int32) : g_Mv l yX1_restart (.code yX1_restart cX1_restart 2 none) { frames := 0, cells := 0, slots := 0, locals := 0 } (dC, dI) vwCl (tysW cI cZ) (wB x cI cZ) (g_bA 13 x) u [.ref (x 10), .int p0] (f_X1_restart u p0) := by
  refine Met.ofW (cc := cX1_restart) (maxL := 2) (ret := none) (by decide) rfl ?_
  intro p e s m args below meth c s₁ B hml hv
  obtain ⟨rfl, hP, hK⟩ := hv
  have hx := B.exec
  have hb := B.bytes
  have hr := B.returns
  have hts := atoms_spec (ws := .code yX1_restart cX1_restart 2 none :: gtbl) B.pre
  have hg : ∀ w ∈ gtbl, w.before _ s = true := fun w h => hts w (List.mem_cons_of_mem _ h)
  have hown : s.vm.findClass RX1 = some m.cls := findClass_of_methodNamed B.named
  have hlocks := B.notSynchronized
  have hS : va_S (g_bA 13 x) s.heap s.heap [] := va_S.rf
  have hl := lv_entry ([.ref (x 10), .int p0]) (n := 2) (Nat.le_of_ble_eq_true rfl)
  rw [lg_entry_eq]
  generalize (lg_sl ([.ref (x 10), .int p0]) ++ List.replicate (2 - (lg_sl ([.ref (x 10), .int p0])).length) Slot.unset).toArray = ls at hl ⊢
  have hl : lv_has ls 2 [(0, .ref (x 10)), (1, .int p0)] := hl
  obtain ⟨F, hF⟩ : ∃ F, f_X1_restart u p0 = F := ⟨_, rfl⟩
  rw [hF]
  refine lv_aload_n hx hb dX1_restart_0 rfl (lv_at hl 0 rfl) ?_
  refine lv_iload_n hx hb dX1_restart_1 rfl (lv_at hl 1 rfl) ?_
  refine pu_X1_pc hi hx hb hg hown kf_X1_16 hK hP hS dX1_restart_2 (fun H locs hP hS => ?_)
  refine lv_aload_n hx hb dX1_restart_5 rfl (lv_at hl 0 rfl) ?_
  refine lv_iconst (v := 0) hx hb dX1_restart_6 (by decide) ?_
  refine pu_X1_depth hi hx hb hg hown kf_X1_32 hK hP hS dX1_restart_7 (fun H locs hP hS => ?_)
  exact g_vret hx hb hr hlocks hP hS dX1_restart_10 hF
def f_X1_variable (u : BS) (p0 : Int32) : Int32 :=
  (bq_vars u ((p0 &&& 15)).toNatClampNeg)
set_option maxHeartbeats 4000000 in
set_option maxRecDepth 100000 in
theorem c_X1_variable (l : Launch) (dC : Nat → ClassId) (dI : Nat → Nat → Nat) (cI cZ : ClassId) (x : Nat → Nat) (hi : g_inj 13 x) (u : BS) (p0 : Int32) : g_Mi l yX1_variable (.code yX1_variable cX1_variable 2 (some .int)) { frames := 0, cells := 0, slots := 0, locals := 0 } (dC, dI) vwCl (tysW cI cZ) (wB x cI cZ) (g_bA 13 x) u [.ref (x 10), .int p0] (f_X1_variable u p0) u := by
  refine Met.ofW (cc := cX1_variable) (maxL := 2) (ret := (some .int)) (by decide) rfl ?_
  intro p e s m args below meth c s₁ B hml hv
  obtain ⟨rfl, hP, hK⟩ := hv
  have hx := B.exec
  have hb := B.bytes
  have hr := B.returns
  have hts := atoms_spec (ws := .code yX1_variable cX1_variable 2 (some .int) :: gtbl) B.pre
  have hg : ∀ w ∈ gtbl, w.before _ s = true := fun w h => hts w (List.mem_cons_of_mem _ h)
  have hown : s.vm.findClass RX1 = some m.cls := findClass_of_methodNamed B.named
  have hlocks := B.notSynchronized
  have hS : va_S (g_bA 13 x) s.heap s.heap [] := va_S.rf
  have hl := lv_entry ([.ref (x 10), .int p0]) (n := 2) (Nat.le_of_ble_eq_true rfl)
  rw [lg_entry_eq]
  generalize (lg_sl ([.ref (x 10), .int p0]) ++ List.replicate (2 - (lg_sl ([.ref (x 10), .int p0])).length) Slot.unset).toArray = ls at hl ⊢
  have hl : lv_has ls 2 [(0, .ref (x 10)), (1, .int p0)] := hl
  obtain ⟨F, hF⟩ : ∃ F, f_X1_variable u p0 = F := ⟨_, rfl⟩
  rw [hF]
  refine lv_aload_n hx hb dX1_variable_0 rfl (lv_at hl 0 rfl) ?_
  refine ge_X1_variables hx hb hg hown kf_X1_9 hK hP dX1_variable_1 ?_
  refine lv_iload_n hx hb dX1_variable_4 rfl (lv_at hl 1 rfl) ?_
  refine lv_bipush (v := 15) hx hb dX1_variable_5 (by decide) ?_
  refine lv_iand hx hb dX1_variable_7 ?_
  refine bl_vars hx hb hK hP (pk_andIn _ 4 rfl (by decide)) dX1_variable_8 ?_
  exact g_iret hx hb hr hlocks hP hS dX1_variable_9 hF rfl
def f_X1_part (u : BS) (p0 : Int32) : Int32 :=
  if p0 = 16 then
    (bq_index u)
  else
    if p0 = 17 then
      (bq_pc u)
    else
      if p0 = 18 then
        (bq_depth u)
      else
        if p0 = 21 then
          (bq_random u)
        else
          (f_X1_variable u p0)
set_option maxHeartbeats 4000000 in
set_option maxRecDepth 100000 in
theorem c_X1_part (l : Launch) (dC : Nat → ClassId) (dI : Nat → Nat → Nat) (cI cZ : ClassId) (x : Nat → Nat) (hi : g_inj 13 x) (u : BS) (p0 : Int32) : g_Mi l yX1_part (.code yX1_part cX1_part 2 (some .int)) { frames := 1, cells := 0, slots := 0, locals := 21 } (dC, dI) vwCl (tysW cI cZ) (wB x cI cZ) (g_bA 13 x) u [.ref (x 10), .int p0] (f_X1_part u p0) u := by
  refine Met.ofW (cc := cX1_part) (maxL := 2) (ret := (some .int)) (by decide) rfl ?_
  intro p e s m args below meth c s₁ B hml hv
  obtain ⟨rfl, hP, hK⟩ := hv
  have hx := B.exec
  have hb := B.bytes
  have hr := B.returns
  have hts := atoms_spec (ws := .code yX1_part cX1_part 2 (some .int) :: gtbl) B.pre
  have hg : ∀ w ∈ gtbl, w.before _ s = true := fun w h => hts w (List.mem_cons_of_mem _ h)
  have hown : s.vm.findClass RX1 = some m.cls := findClass_of_methodNamed B.named
  have hlocks := B.notSynchronized
  have hS : va_S (g_bA 13 x) s.heap s.heap [] := va_S.rf
  have hl := lv_entry ([.ref (x 10), .int p0]) (n := 2) (Nat.le_of_ble_eq_true rfl)
  rw [lg_entry_eq]
  generalize (lg_sl ([.ref (x 10), .int p0]) ++ List.replicate (2 - (lg_sl ([.ref (x 10), .int p0])).length) Slot.unset).toArray = ls at hl ⊢
  have hl : lv_has ls 2 [(0, .ref (x 10)), (1, .int p0)] := hl
  obtain ⟨F, hF⟩ : ∃ F, f_X1_part u p0 = F := ⟨_, rfl⟩
  rw [hF]
  refine lv_iload_n hx hb dX1_part_0 rfl (lv_at hl 1 rfl) ?_
  refine sw_case (v := 16) (fun c1 => ?_) (fun c1 => ?_)
  · have hF := (if_pos c1).symm.trans hF
    refine sw_in (off := 39) (tgt := 40) 16 hx hb dX1_part_1 c1 (by decide) (by decide) ?_
    refine lv_aload_n hx hb dX1_part_40 rfl (lv_at hl 0 rfl) ?_
    refine ge_X1_index hx hb hg hown kf_X1_35 hK hP dX1_part_41 ?_
    exact g_iret hx hb hr hlocks hP hS dX1_part_44 hF rfl
  · have hF := (if_neg c1).symm.trans hF
    refine sw_case (v := 17) (fun c2 => ?_) (fun c2 => ?_)
    · have hF := (if_pos c2).symm.trans hF
      refine sw_in (off := 44) (tgt := 45) 17 hx hb dX1_part_1 c2 (by decide) (by decide) ?_
      refine lv_aload_n hx hb dX1_part_45 rfl (lv_at hl 0 rfl) ?_
      refine ge_X1_pc hx hb hg hown kf_X1_16 hK hP dX1_part_46 ?_
      exact g_iret hx hb hr hlocks hP hS dX1_part_49 hF rfl
    · have hF := (if_neg c2).symm.trans hF
      refine sw_case (v := 18) (fun c3 => ?_) (fun c3 => ?_)
      · have hF := (if_pos c3).symm.trans hF
        refine sw_in (off := 49) (tgt := 50) 18 hx hb dX1_part_1 c3 (by decide) (by decide) ?_
        refine lv_aload_n hx hb dX1_part_50 rfl (lv_at hl 0 rfl) ?_
        refine ge_X1_depth hx hb hg hown kf_X1_32 hK hP dX1_part_51 ?_
        exact g_iret hx hb hr hlocks hP hS dX1_part_54 hF rfl
      · have hF := (if_neg c3).symm.trans hF
        refine sw_case (v := 21) (fun c4 => ?_) (fun c4 => ?_)
        · have hF := (if_pos c4).symm.trans hF
          refine sw_in (off := 54) (tgt := 55) 21 hx hb dX1_part_1 c4 (by decide) (by decide) ?_
          refine lv_aload_n hx hb dX1_part_55 rfl (lv_at hl 0 rfl) ?_
          refine ge_X1_random hx hb hg hown kf_X1_38 hK hP dX1_part_56 ?_
          exact g_iret hx hb hr hlocks hP hS dX1_part_59 hF rfl
        · have hF := (if_neg c4).symm.trans hF
          refine sw_def (tgt := 60) [16, 17, 18, 21] hx hb dX1_part_1 (List.forall_mem_cons.mpr ⟨c1, List.forall_mem_cons.mpr ⟨c2, List.forall_mem_cons.mpr ⟨c3, List.forall_mem_cons.mpr ⟨c4, fun _ h => absurd h List.not_mem_nil⟩⟩⟩⟩) (by decide) (by decide) ?_
          refine lv_aload_n hx hb dX1_part_60 rfl (lv_at hl 0 rfl) ?_
          refine lv_iload_n hx hb dX1_part_61 rfl (lv_at hl 1 rfl) ?_
          refine g_Vi hx hb hml hown hg (c_X1_variable l dC dI cI cZ x hi _ _) cs_X1_41 rfl rfl ⟨Nat.le_of_ble_eq_true rfl, Nat.le_of_ble_eq_true rfl⟩ hK hP hS (q0 := 10) rfl rfl rfl hl.1 rfl (Nat.le_of_ble_eq_true rfl) dX1_part_62 ⟨Nat.zero_le _, Nat.zero_le _⟩ (fun H locs hP hS => ?_)
          exact g_iret hx hb hr hlocks hP hS dX1_part_65 hF rfl
def f_X1_putVariable (u : BS) (p0 : Int32) (p1 : Int32) : BS :=
  let u1 : BS := bs_vars u (upd (bq_vars u) ((p0 &&& 15)).toNatClampNeg (p1 &&& 255))
  u1
set_option maxHeartbeats 4000000 in
set_option maxRecDepth 100000 in
theorem c_X1_putVariable (l : Launch) (dC : Nat → ClassId) (dI : Nat → Nat → Nat) (cI cZ : ClassId) (x : Nat → Nat) (hi : g_inj 13 x) (u : BS) (p0 : Int32) (p1 : Int32) : g_Mv l yX1_putVariable (.code yX1_putVariable cX1_putVariable 3 none) { frames := 0, cells := 0, slots := 0, locals := 0 } (dC, dI) vwCl (tysW cI cZ) (wB x cI cZ) (g_bA 13 x) u [.ref (x 10), .int p0, .int p1] (f_X1_putVariable u p0 p1) := by
  refine Met.ofW (cc := cX1_putVariable) (maxL := 3) (ret := none) (by decide) rfl ?_
  intro p e s m args below meth c s₁ B hml hv
  obtain ⟨rfl, hP, hK⟩ := hv
  have hx := B.exec
  have hb := B.bytes
  have hr := B.returns
  have hts := atoms_spec (ws := .code yX1_putVariable cX1_putVariable 3 none :: gtbl) B.pre
  have hg : ∀ w ∈ gtbl, w.before _ s = true := fun w h => hts w (List.mem_cons_of_mem _ h)
  have hown : s.vm.findClass RX1 = some m.cls := findClass_of_methodNamed B.named
  have hlocks := B.notSynchronized
  have hS : va_S (g_bA 13 x) s.heap s.heap [] := va_S.rf
  have hl := lv_entry ([.ref (x 10), .int p0, .int p1]) (n := 3) (Nat.le_of_ble_eq_true rfl)
  rw [lg_entry_eq]
  generalize (lg_sl ([.ref (x 10), .int p0, .int p1]) ++ List.replicate (3 - (lg_sl ([.ref (x 10), .int p0, .int p1])).length) Slot.unset).toArray = ls at hl ⊢
  have hl : lv_has ls 3 [(0, .ref (x 10)), (1, .int p0), (2, .int p1)] := hl
  obtain ⟨F, hF⟩ : ∃ F, f_X1_putVariable u p0 p1 = F := ⟨_, rfl⟩
  rw [hF]
  refine lv_aload_n hx hb dX1_putVariable_0 rfl (lv_at hl 0 rfl) ?_
  refine ge_X1_variables hx hb hg hown kf_X1_9 hK hP dX1_putVariable_1 ?_
  refine lv_iload_n hx hb dX1_putVariable_4 rfl (lv_at hl 1 rfl) ?_
  refine lv_bipush (v := 15) hx hb dX1_putVariable_5 (by decide) ?_
  refine lv_iand hx hb dX1_putVariable_7 ?_
  refine lv_iload_n hx hb dX1_putVariable_8 rfl (lv_at hl 2 rfl) ?_
  refine lv_sipush (v := 255) hx hb dX1_putVariable_9 (by decide) ?_
  refine lv_iand hx hb dX1_putVariable_12 ?_
  refine ba_vars hi hx hb hK hP hS (pk_andIn _ 4 rfl (by decide)) dX1_putVariable_13 (fun H locs hP hS => ?_)
  exact g_vret hx hb hr hlocks hP hS dX1_putVariable_14 hF
def f_X1_putIndex (u : BS) (p0 : Int32) : BS :=
  let u1 : BS := bs_index u (p0 &&& 4095)
  u1
set_option maxHeartbeats 4000000 in
set_option maxRecDepth 100000 in
theorem c_X1_putIndex (l : Launch) (dC : Nat → ClassId) (dI : Nat → Nat → Nat) (cI cZ : ClassId) (x : Nat → Nat) (hi : g_inj 13 x) (u : BS) (p0 : Int32) : g_Mv l yX1_putIndex (.code yX1_putIndex cX1_putIndex 2 none) { frames := 0, cells := 0, slots := 0, locals := 0 } (dC, dI) vwCl (tysW cI cZ) (wB x cI cZ) (g_bA 13 x) u [.ref (x 10), .int p0] (f_X1_putIndex u p0) := by
  refine Met.ofW (cc := cX1_putIndex) (maxL := 2) (ret := none) (by decide) rfl ?_
  intro p e s m args below meth c s₁ B hml hv
  obtain ⟨rfl, hP, hK⟩ := hv
  have hx := B.exec
  have hb := B.bytes
  have hr := B.returns
  have hts := atoms_spec (ws := .code yX1_putIndex cX1_putIndex 2 none :: gtbl) B.pre
  have hg : ∀ w ∈ gtbl, w.before _ s = true := fun w h => hts w (List.mem_cons_of_mem _ h)
  have hown : s.vm.findClass RX1 = some m.cls := findClass_of_methodNamed B.named
  have hlocks := B.notSynchronized
  have hS : va_S (g_bA 13 x) s.heap s.heap [] := va_S.rf
  have hl := lv_entry ([.ref (x 10), .int p0]) (n := 2) (Nat.le_of_ble_eq_true rfl)
  rw [lg_entry_eq]
  generalize (lg_sl ([.ref (x 10), .int p0]) ++ List.replicate (2 - (lg_sl ([.ref (x 10), .int p0])).length) Slot.unset).toArray = ls at hl ⊢
  have hl : lv_has ls 2 [(0, .ref (x 10)), (1, .int p0)] := hl
  obtain ⟨F, hF⟩ : ∃ F, f_X1_putIndex u p0 = F := ⟨_, rfl⟩
  rw [hF]
  refine lv_aload_n hx hb dX1_putIndex_0 rfl (lv_at hl 0 rfl) ?_
  refine lv_iload_n hx hb dX1_putIndex_1 rfl (lv_at hl 1 rfl) ?_
  refine lv_sipush (v := 4095) hx hb dX1_putIndex_2 (by decide) ?_
  refine lv_iand hx hb dX1_putIndex_5 ?_
  refine pu_X1_index hi hx hb hg hown kf_X1_35 hK hP hS dX1_putIndex_6 (fun H locs hP hS => ?_)
  exact g_vret hx hb hr hlocks hP hS dX1_putIndex_9 hF
def f_X1_jump (u : BS) (p0 : Int32) : BS :=
  let u1 : BS := bs_pc u (p0 &&& 4095)
  u1
set_option maxHeartbeats 4000000 in
set_option maxRecDepth 100000 in
theorem c_X1_jump (l : Launch) (dC : Nat → ClassId) (dI : Nat → Nat → Nat) (cI cZ : ClassId) (x : Nat → Nat) (hi : g_inj 13 x) (u : BS) (p0 : Int32) : g_Mv l yX1_jump (.code yX1_jump cX1_jump 2 none) { frames := 0, cells := 0, slots := 0, locals := 0 } (dC, dI) vwCl (tysW cI cZ) (wB x cI cZ) (g_bA 13 x) u [.ref (x 10), .int p0] (f_X1_jump u p0) := by
  refine Met.ofW (cc := cX1_jump) (maxL := 2) (ret := none) (by decide) rfl ?_
  intro p e s m args below meth c s₁ B hml hv
  obtain ⟨rfl, hP, hK⟩ := hv
  have hx := B.exec
  have hb := B.bytes
  have hr := B.returns
  have hts := atoms_spec (ws := .code yX1_jump cX1_jump 2 none :: gtbl) B.pre
  have hg : ∀ w ∈ gtbl, w.before _ s = true := fun w h => hts w (List.mem_cons_of_mem _ h)
  have hown : s.vm.findClass RX1 = some m.cls := findClass_of_methodNamed B.named
  have hlocks := B.notSynchronized
  have hS : va_S (g_bA 13 x) s.heap s.heap [] := va_S.rf
  have hl := lv_entry ([.ref (x 10), .int p0]) (n := 2) (Nat.le_of_ble_eq_true rfl)
  rw [lg_entry_eq]
  generalize (lg_sl ([.ref (x 10), .int p0]) ++ List.replicate (2 - (lg_sl ([.ref (x 10), .int p0])).length) Slot.unset).toArray = ls at hl ⊢
  have hl : lv_has ls 2 [(0, .ref (x 10)), (1, .int p0)] := hl
  obtain ⟨F, hF⟩ : ∃ F, f_X1_jump u p0 = F := ⟨_, rfl⟩
  rw [hF]
  refine lv_aload_n hx hb dX1_jump_0 rfl (lv_at hl 0 rfl) ?_
  refine lv_iload_n hx hb dX1_jump_1 rfl (lv_at hl 1 rfl) ?_
  refine lv_sipush (v := 4095) hx hb dX1_jump_2 (by decide) ?_
  refine lv_iand hx hb dX1_jump_5 ?_
  refine pu_X1_pc hi hx hb hg hown kf_X1_16 hK hP hS dX1_jump_6 (fun H locs hP hS => ?_)
  exact g_vret hx hb hr hlocks hP hS dX1_jump_9 hF
def f_X1_skipIf (u : BS) (p0 : Int32) : Int32 × BS :=
  if p0 = 0 then
    (0, u)
  else
    let r1 : BS := f_X1_jump u ((bq_pc u) + 2)
    (0, r1)
set_option maxHeartbeats 4000000 in
set_option maxRecDepth 100000 in
theorem c_X1_skipIf (l : Launch) (dC : Nat → ClassId) (dI : Nat → Nat → Nat) (cI cZ : ClassId) (x : Nat → Nat) (hi : g_inj 13 x) (u : BS) (p0 : Int32) : g_Mi l yX1_skipIf (.code yX1_skipIf cX1_skipIf 2 (some .int)) { frames := 1, cells := 0, slots := 0, locals := 21 } (dC, dI) vwCl (tysW cI cZ) (wB x cI cZ) (g_bA 13 x) u [.ref (x 10), .int p0] (f_X1_skipIf u p0).1 (f_X1_skipIf u p0).2 := by
  refine Met.ofW (cc := cX1_skipIf) (maxL := 2) (ret := (some .int)) (by decide) rfl ?_
  intro p e s m args below meth c s₁ B hml hv
  obtain ⟨rfl, hP, hK⟩ := hv
  have hx := B.exec
  have hb := B.bytes
  have hr := B.returns
  have hts := atoms_spec (ws := .code yX1_skipIf cX1_skipIf 2 (some .int) :: gtbl) B.pre
  have hg : ∀ w ∈ gtbl, w.before _ s = true := fun w h => hts w (List.mem_cons_of_mem _ h)
  have hown : s.vm.findClass RX1 = some m.cls := findClass_of_methodNamed B.named
  have hlocks := B.notSynchronized
  have hS : va_S (g_bA 13 x) s.heap s.heap [] := va_S.rf
  have hl := lv_entry ([.ref (x 10), .int p0]) (n := 2) (Nat.le_of_ble_eq_true rfl)
  rw [lg_entry_eq]
  generalize (lg_sl ([.ref (x 10), .int p0]) ++ List.replicate (2 - (lg_sl ([.ref (x 10), .int p0])).length) Slot.unset).toArray = ls at hl ⊢
  have hl : lv_has ls 2 [(0, .ref (x 10)), (1, .int p0)] := hl
  obtain ⟨F, hF⟩ : ∃ F, f_X1_skipIf u p0 = F := ⟨_, rfl⟩
  rw [hF]
  refine lv_iload_n hx hb dX1_skipIf_0 rfl (lv_at hl 1 rfl) ?_
  refine lv_if_eq (tgt := 14) hx hb dX1_skipIf_1 (by decide) (fun c1 => ?_) (fun c1 => ?_)
  · have hF := (if_pos c1).symm.trans hF
    refine lv_iconst (v := 0) hx hb dX1_skipIf_14 (by decide) ?_
    have hF : (_, _) = F := hF
    exact g_iret hx hb hr hlocks hP hS dX1_skipIf_15 (g_p1 hF) (g_p2 hF)
  · have hF := (if_neg c1).symm.trans hF
    refine lv_aload_n hx hb dX1_skipIf_4 rfl (lv_at hl 0 rfl) ?_
    refine lv_aload_n hx hb dX1_skipIf_5 rfl (lv_at hl 0 rfl) ?_
    refine ge_X1_pc hx hb hg hown kf_X1_16 hK hP dX1_skipIf_6 ?_
    refine lv_iconst (v := 2) hx hb dX1_skipIf_9 (by decide) ?_
    refine lv_iadd hx hb dX1_skipIf_10 ?_
    refine g_Vv hx hb hml hown hg (c_X1_jump l dC dI cI cZ x hi _ _) cs_X1_50 rfl rfl ⟨Nat.le_of_ble_eq_true rfl, Nat.le_of_ble_eq_true rfl⟩ hK hP hS (q0 := 10) rfl rfl rfl hl.1 rfl (Nat.le_of_ble_eq_true rfl) dX1_skipIf_11 ⟨Nat.zero_le _, Nat.zero_le _⟩ (fun H locs hP hS => ?_)
    refine lv_iconst (v := 0) hx hb dX1_skipIf_14 (by decide) ?_
    have hF : (_, _) = F := hF
    exact g_iret hx hb hr hlocks hP hS dX1_skipIf_15 (g_p1 hF) (g_p2 hF)
def f_X1_clear_L : Nat → BS → Int32 → BS
  | 0, u, _ => u
  | n + 1, u, a1 =>
    if 256 ≤ a1 then
      u
    else
      let r1 : BS := f_X2_write u ((1792 : Int32) + a1) 0
      let t2 : Int32 := a1 + Int32.ofInt 1
      f_X1_clear_L n r1 t2
def ok_X1_clear_L : Nat → BS → Int32 → Prop
  | 0, _, _ => False
  | n + 1, u, a1 =>
    if 256 ≤ a1 then
      True
    else
      let r1 : BS := f_X2_write u ((1792 : Int32) + a1) 0
      let t2 : Int32 := a1 + Int32.ofInt 1
      ok_X1_clear_L n r1 t2
def f_X1_clear (u : BS) : BS :=
  f_X1_clear_L 257 u 0
def ok_X1_clear (u : BS) : Prop :=
  ok_X1_clear_L 257 u 0
set_option maxHeartbeats 4000000 in
set_option maxRecDepth 100000 in
theorem c_X1_clear (l : Launch) (dC : Nat → ClassId) (dI : Nat → Nat → Nat) (cI cZ : ClassId) (x : Nat → Nat) (hi : g_inj 13 x) (u : BS) (hok : ok_X1_clear u) : g_Mv l yX1_clear (.code yX1_clear cX1_clear 2 none) { frames := 1, cells := 0, slots := 0, locals := 22 } (dC, dI) vwCl (tysW cI cZ) (wB x cI cZ) (g_bA 13 x) u [.ref (x 10)] (f_X1_clear u) := by
  refine Met.ofW (cc := cX1_clear) (maxL := 2) (ret := none) (by decide) rfl ?_
  intro p e s m args below meth c s₁ B hml hv
  obtain ⟨rfl, hP, hK⟩ := hv
  have hx := B.exec
  have hb := B.bytes
  have hr := B.returns
  have hts := atoms_spec (ws := .code yX1_clear cX1_clear 2 none :: gtbl) B.pre
  have hg : ∀ w ∈ gtbl, w.before _ s = true := fun w h => hts w (List.mem_cons_of_mem _ h)
  have hown : s.vm.findClass RX1 = some m.cls := findClass_of_methodNamed B.named
  have hlocks := B.notSynchronized
  have hS : va_S (g_bA 13 x) s.heap s.heap [] := va_S.rf
  have hl := lv_entry ([.ref (x 10)]) (n := 2) (Nat.le_of_ble_eq_true rfl)
  rw [lg_entry_eq]
  generalize (lg_sl ([.ref (x 10)]) ++ List.replicate (2 - (lg_sl ([.ref (x 10)])).length) Slot.unset).toArray = ls at hl ⊢
  have hl : lv_has ls 2 [(0, .ref (x 10))] := hl
  obtain ⟨F, hF⟩ : ∃ F, f_X1_clear u = F := ⟨_, rfl⟩
  rw [hF]
  have loop : ∀ (n : Nat), (∀ (u : BS) (a1 : Int32) (H : Heap) (locs : List Loc) (ls : Array Slot), f_X1_clear_L n u a1 = F → ok_X1_clear_L n u a1 → va_P (dC, dI) vwCl (wB x cI cZ u) H → va_S (g_bA 13 x) s.heap H locs → lv_has ls 2 [(0, .ref (x 10)), (1, .int a1)] → W p l e (headSpec (.code yX1_clear cX1_clear 2 none :: gtbl) { frames := 1, cells := 0, slots := 0, locals := 22 }).room s m ([.ref (x 10)] : List Value).toArray below meth c H locs 0 0 (MQ below (va_Qv (fun v1 => v1 = F) (fun v1 t => va_P (dC, dI) vwCl (wB x cI cZ v1) t.heap) (g_bA 13 x)) ([.ref (x 10)] : List Value).toArray s 0 0 (g_bA 13 x)) (F0 m 2 ls [])) := by
    intro n
    induction n with
    | zero => intro u a1 H locs ls hF hok; exact hok.elim
    | succ n ih =>
      intro u a1 H locs ls hF hok hP hS hl
      refine lv_iload_n hx hb dX1_clear_2 rfl (lv_at hl 1 rfl) ?_
      refine lv_sipush (v := 256) hx hb dX1_clear_3 (by decide) ?_
      refine lv_icmp_ge (tgt := 28) hx hb dX1_clear_6 (by decide) (fun c1 => ?_) (fun c1 => ?_)
      · have hF := (if_pos c1).symm.trans hF
        have hok := Eq.mp (if_pos c1) hok
        exact g_vret hx hb hr hlocks hP hS dX1_clear_28 hF
      · have hF := (if_neg c1).symm.trans hF
        have hok := Eq.mp (if_neg c1) hok
        refine lv_aload_n hx hb dX1_clear_9 rfl (lv_at hl 0 rfl) ?_
        refine ge_X1_memory hx hb hg hown kf_X1_20 hK hP dX1_clear_10 ?_
        refine lv_sipush (v := 1792) hx hb dX1_clear_13 (by decide) ?_
        refine lv_iload_n hx hb dX1_clear_16 rfl (lv_at hl 1 rfl) ?_
        refine lv_iadd hx hb dX1_clear_17 ?_
        refine lv_iconst (v := 0) hx hb dX1_clear_18 (by decide) ?_
        refine g_Vv hx hb hml hown hg (c_X2_write l dC dI cI cZ x hi _ _ _) cs_X1_109 rfl rfl ⟨Nat.le_of_ble_eq_true rfl, Nat.le_of_ble_eq_true rfl⟩ hK hP hS (q0 := 1) rfl rfl rfl hl.1 rfl (Nat.le_of_ble_eq_true rfl) dX1_clear_19 ⟨Nat.zero_le _, Nat.zero_le _⟩ (fun H locs hP hS => ?_)
        refine lv_iinc hx hb dX1_clear_22 hl (k := 1) rfl rfl (by decide) rfl (fun ls hl => ?_)
        have hl : lv_has ls 2 [(1, _), (0, _)] := hl
        refine lv_goto (tgt := 2) hx hb dX1_clear_25 (by decide) ?_
        exact ih _ _ _ _ _ hF hok hP hS (lv_sub hl [1, 0] rfl)
  refine lv_iconst (v := 0) hx hb dX1_clear_0 (by decide) ?_
  refine lv_istore_n hx hb dX1_clear_1 rfl hl (by decide) rfl (fun ls hl => ?_)
  have hl : lv_has ls 2 [(1, _), (0, _)] := hl
  exact (loop 257) _ _ _ _ _ hF hok hP hS (lv_sub hl [1, 0] rfl)
def f_X1_leave (u : BS) : Int32 × BS :=
  if (bq_depth u) ≤ 0 then
    (3, u)
  else
    if (bq_depth u) ≤ 12 then
      let u1 : BS := bs_depth u ((bq_depth u) - 1)
      let r2 : BS := f_X1_jump u1 (bq_stk u1 ((bq_depth u1)).toNatClampNeg)
      (0, r2)
    else
      (3, u)
def ok_X1_leave (u : BS) : Prop :=
  if (bq_depth u) ≤ 0 then
    True
  else
    if (bq_depth u) ≤ 12 then
      let u1 : BS := bs_depth u ((bq_depth u) - 1)
      vp_in (bq_depth u1) 12 ∧
      let r2 : BS := f_X1_jump u1 (bq_stk u1 ((bq_depth u1)).toNatClampNeg)
      True
    else
      True
set_option maxHeartbeats 4000000 in
set_option maxRecDepth 100000 in
theorem c_X1_leave (l : Launch) (dC : Nat → ClassId) (dI : Nat → Nat → Nat) (cI cZ : ClassId) (x : Nat → Nat) (hi : g_inj 13 x) (u : BS) (hok : ok_X1_leave u) : g_Mi l yX1_leave (.code yX1_leave cX1_leave 1 (some .int)) { frames := 1, cells := 0, slots := 0, locals := 21 } (dC, dI) vwCl (tysW cI cZ) (wB x cI cZ) (g_bA 13 x) u [.ref (x 10)] (f_X1_leave u).1 (f_X1_leave u).2 := by
  refine Met.ofW (cc := cX1_leave) (maxL := 1) (ret := (some .int)) (by decide) rfl ?_
  intro p e s m args below meth c s₁ B hml hv
  obtain ⟨rfl, hP, hK⟩ := hv
  have hx := B.exec
  have hb := B.bytes
  have hr := B.returns
  have hts := atoms_spec (ws := .code yX1_leave cX1_leave 1 (some .int) :: gtbl) B.pre
  have hg : ∀ w ∈ gtbl, w.before _ s = true := fun w h => hts w (List.mem_cons_of_mem _ h)
  have hown : s.vm.findClass RX1 = some m.cls := findClass_of_methodNamed B.named
  have hlocks := B.notSynchronized
  have hS : va_S (g_bA 13 x) s.heap s.heap [] := va_S.rf
  have hl := lv_entry ([.ref (x 10)]) (n := 1) (Nat.le_of_ble_eq_true rfl)
  rw [lg_entry_eq]
  generalize (lg_sl ([.ref (x 10)]) ++ List.replicate (1 - (lg_sl ([.ref (x 10)])).length) Slot.unset).toArray = ls at hl ⊢
  have hl : lv_has ls 1 [(0, .ref (x 10))] := hl
  obtain ⟨F, hF⟩ : ∃ F, f_X1_leave u = F := ⟨_, rfl⟩
  rw [hF]
  refine lv_aload_n hx hb dX1_leave_0 rfl (lv_at hl 0 rfl) ?_
  refine ge_X1_depth hx hb hg hown kf_X1_32 hK hP dX1_leave_1 ?_
  refine lv_if_le (tgt := 16) hx hb dX1_leave_4 (by decide) (fun c1 => ?_) (fun c1 => ?_)
  · have hF := (if_pos c1).symm.trans hF
    have hok := Eq.mp (if_pos c1) hok
    refine lv_iconst (v := 3) hx hb dX1_leave_16 (by decide) ?_
    have hF : (_, _) = F := hF
    exact g_iret hx hb hr hlocks hP hS dX1_leave_17 (g_p1 hF) (g_p2 hF)
  · have hF := (if_neg c1).symm.trans hF
    have hok := Eq.mp (if_neg c1) hok
    refine lv_aload_n hx hb dX1_leave_7 rfl (lv_at hl 0 rfl) ?_
    refine ge_X1_depth hx hb hg hown kf_X1_32 hK hP dX1_leave_8 ?_
    refine lv_bipush (v := 12) hx hb dX1_leave_11 (by decide) ?_
    refine lv_icmp_le (tgt := 18) hx hb dX1_leave_13 (by decide) (fun c2 => ?_) (fun c2 => ?_)
    · have hF := (if_pos c2).symm.trans hF
      have hok := Eq.mp (if_pos c2) hok
      refine lv_aload_n hx hb dX1_leave_18 rfl (lv_at hl 0 rfl) ?_
      refine lv_dup hx hb dX1_leave_19 rfl ?_
      refine ge_X1_depth hx hb hg hown kf_X1_32 hK hP dX1_leave_20 ?_
      refine lv_iconst (v := 1) hx hb dX1_leave_23 (by decide) ?_
      refine lv_isub hx hb dX1_leave_24 ?_
      refine pu_X1_depth hi hx hb hg hown kf_X1_32 hK hP hS dX1_leave_25 (fun H locs hP hS => ?_)
      refine lv_aload_n hx hb dX1_leave_28 rfl (lv_at hl 0 rfl) ?_
      refine lv_aload_n hx hb dX1_leave_29 rfl (lv_at hl 0 rfl) ?_
      refine ge_X1_stack hx hb hg hown kf_X1_13 hK hP dX1_leave_30 ?_
      refine lv_aload_n hx hb dX1_leave_33 rfl (lv_at hl 0 rfl) ?_
      refine ge_X1_depth hx hb hg hown kf_X1_32 hK hP dX1_leave_34 ?_
      obtain ⟨c3, hok⟩ := hok
      refine bl_stk hx hb hK hP c3 dX1_leave_37 ?_
      refine g_Vv hx hb hml hown hg (c_X1_jump l dC dI cI cZ x hi _ _) cs_X1_50 rfl rfl ⟨Nat.le_of_ble_eq_true rfl, Nat.le_of_ble_eq_true rfl⟩ hK hP hS (q0 := 10) rfl rfl rfl hl.1 rfl (Nat.le_of_ble_eq_true rfl) dX1_leave_38 ⟨Nat.zero_le _, Nat.zero_le _⟩ (fun H locs hP hS => ?_)
      refine lv_iconst (v := 0) hx hb dX1_leave_41 (by decide) ?_
      have hF : (_, _) = F := hF
      exact g_iret hx hb hr hlocks hP hS dX1_leave_42 (g_p1 hF) (g_p2 hF)
    · have hF := (if_neg c2).symm.trans hF
      have hok := Eq.mp (if_neg c2) hok
      refine lv_iconst (v := 3) hx hb dX1_leave_16 (by decide) ?_
      have hF : (_, _) = F := hF
      exact g_iret hx hb hr hlocks hP hS dX1_leave_17 (g_p1 hF) (g_p2 hF)
def f_X1_clearOrLeave (u : BS) (p0 : Int32) : Int32 × BS :=
  if p0 = 224 then
    let r1 : BS := f_X1_clear u
    (0, r1)
  else
    if p0 = 238 then
      let r2 : Int32 × BS := f_X1_leave u
      (r2.1, r2.2)
    else
      (2, u)
def ok_X1_clearOrLeave (u : BS) (p0 : Int32) : Prop :=
  if p0 = 224 then
    ok_X1_clear u ∧
    let r1 : BS := f_X1_clear u
    True
  else
    if p0 = 238 then
      ok_X1_leave u ∧
      let r2 : Int32 × BS := f_X1_leave u
      True
    else
      True
set_option maxHeartbeats 4000000 in
set_option maxRecDepth 100000 in
theorem c_X1_clearOrLeave (l : Launch) (dC : Nat → ClassId) (dI : Nat → Nat → Nat) (cI cZ : ClassId) (x : Nat → Nat) (hi : g_inj 13 x) (u : BS) (p0 : Int32) (hok : ok_X1_clearOrLeave u p0) : g_Mi l yX1_clearOrLeave (.code yX1_clearOrLeave cX1_clearOrLeave 2 (some .int)) { frames := 2, cells := 0, slots := 0, locals := 43 } (dC, dI) vwCl (tysW cI cZ) (wB x cI cZ) (g_bA 13 x) u [.ref (x 10), .int p0] (f_X1_clearOrLeave u p0).1 (f_X1_clearOrLeave u p0).2 := by
  refine Met.ofW (cc := cX1_clearOrLeave) (maxL := 2) (ret := (some .int)) (by decide) rfl ?_
  intro p e s m args below meth c s₁ B hml hv
  obtain ⟨rfl, hP, hK⟩ := hv
  have hx := B.exec
  have hb := B.bytes
  have hr := B.returns
  have hts := atoms_spec (ws := .code yX1_clearOrLeave cX1_clearOrLeave 2 (some .int) :: gtbl) B.pre
  have hg : ∀ w ∈ gtbl, w.before _ s = true := fun w h => hts w (List.mem_cons_of_mem _ h)
  have hown : s.vm.findClass RX1 = some m.cls := findClass_of_methodNamed B.named
  have hlocks := B.notSynchronized
  have hS : va_S (g_bA 13 x) s.heap s.heap [] := va_S.rf
  have hl := lv_entry ([.ref (x 10), .int p0]) (n := 2) (Nat.le_of_ble_eq_true rfl)
  rw [lg_entry_eq]
  generalize (lg_sl ([.ref (x 10), .int p0]) ++ List.replicate (2 - (lg_sl ([.ref (x 10), .int p0])).length) Slot.unset).toArray = ls at hl ⊢
  have hl : lv_has ls 2 [(0, .ref (x 10)), (1, .int p0)] := hl
  obtain ⟨F, hF⟩ : ∃ F, f_X1_clearOrLeave u p0 = F := ⟨_, rfl⟩
  rw [hF]
  refine lv_iload_n hx hb dX1_clearOrLeave_0 rfl (lv_at hl 1 rfl) ?_
  refine lv_sipush (v := 224) hx hb dX1_clearOrLeave_1 (by decide) ?_
  refine lv_icmp_ne (tgt := 13) hx hb dX1_clearOrLeave_4 (by decide) (fun c1 => ?_) (fun c1 => ?_)
  · have hF := (if_neg c1).symm.trans hF
    have hok := Eq.mp (if_neg c1) hok
    refine lv_iload_n hx hb dX1_clearOrLeave_13 rfl (lv_at hl 1 rfl) ?_
    refine lv_sipush (v := 238) hx hb dX1_clearOrLeave_14 (by decide) ?_
    refine lv_icmp_ne (tgt := 27) hx hb dX1_clearOrLeave_17 (by decide) (fun c3 => ?_) (fun c3 => ?_)
    · have hF := (if_neg c3).symm.trans hF
      have hok := Eq.mp (if_neg c3) hok
      refine lv_iconst (v := 2) hx hb dX1_clearOrLeave_27 (by decide) ?_
      have hF : (_, _) = F := hF
      exact g_iret hx hb hr hlocks hP hS dX1_clearOrLeave_28 (g_p1 hF) (g_p2 hF)
    · have hF := (if_pos c3).symm.trans hF
      have hok := Eq.mp (if_pos c3) hok
      refine lv_aload_n hx hb dX1_clearOrLeave_20 rfl (lv_at hl 0 rfl) ?_
      obtain ⟨c4, hok⟩ := hok
      refine g_Vi hx hb hml hown hg (c_X1_leave l dC dI cI cZ x hi _ c4) cs_X1_105 rfl rfl ⟨Nat.le_of_ble_eq_true rfl, Nat.le_of_ble_eq_true rfl⟩ hK hP hS (q0 := 10) rfl rfl rfl hl.1 rfl (Nat.le_of_ble_eq_true rfl) dX1_clearOrLeave_21 ⟨Nat.zero_le _, Nat.zero_le _⟩ (fun H locs hP hS => ?_)
      refine lv_goto (tgt := 28) hx hb dX1_clearOrLeave_24 (by decide) ?_
      have hF : (_, _) = F := hF
      exact g_iret hx hb hr hlocks hP hS dX1_clearOrLeave_28 (g_p1 hF) (g_p2 hF)
  · have hF := (if_pos c1).symm.trans hF
    have hok := Eq.mp (if_pos c1) hok
    refine lv_aload_n hx hb dX1_clearOrLeave_7 rfl (lv_at hl 0 rfl) ?_
    obtain ⟨c2, hok⟩ := hok
    refine g_Vv hx hb hml hown hg (c_X1_clear l dC dI cI cZ x hi _ c2) cs_X1_102 rfl rfl ⟨Nat.le_of_ble_eq_true rfl, Nat.le_of_ble_eq_true rfl⟩ hK hP hS (q0 := 10) rfl rfl rfl hl.1 rfl (Nat.le_of_ble_eq_true rfl) dX1_clearOrLeave_8 ⟨Nat.zero_le _, Nat.zero_le _⟩ (fun H locs hP hS => ?_)
    refine lv_iconst (v := 0) hx hb dX1_clearOrLeave_11 (by decide) ?_
    have hF : (_, _) = F := hF
    exact g_iret hx hb hr hlocks hP hS dX1_clearOrLeave_12 (g_p1 hF) (g_p2 hF)
def f_X1_enter (u : BS) (p0 : Int32) : Int32 × BS :=
  if (bq_depth u) < 0 then
    (3, u)
  else
    if (bq_depth u) < 12 then
      let u1 : BS := bs_stk u (upd (bq_stk u) ((bq_depth u)).toNatClampNeg (bq_pc u))
      let u2 : BS := bs_depth u1 ((bq_depth u1) + 1)
      let r3 : BS := f_X1_jump u2 p0
      (0, r3)
    else
      (3, u)
def ok_X1_enter (u : BS) (p0 : Int32) : Prop :=
  if (bq_depth u) < 0 then
    True
  else
    if (bq_depth u) < 12 then
      vp_in (bq_depth u) 12 ∧
      let u1 : BS := bs_stk u (upd (bq_stk u) ((bq_depth u)).toNatClampNeg (bq_pc u))
      let u2 : BS := bs_depth u1 ((bq_depth u1) + 1)
      let r3 : BS := f_X1_jump u2 p0
      True
    else
      True
set_option maxHeartbeats 4000000 in
set_option maxRecDepth 100000 in
theorem c_X1_enter (l : Launch) (dC : Nat → ClassId) (dI : Nat → Nat → Nat) (cI cZ : ClassId) (x : Nat → Nat) (hi : g_inj 13 x) (u : BS) (p0 : Int32) (hok : ok_X1_enter u p0) : g_Mi l yX1_enter (.code yX1_enter cX1_enter 2 (some .int)) { frames := 1, cells := 0, slots := 0, locals := 21 } (dC, dI) vwCl (tysW cI cZ) (wB x cI cZ) (g_bA 13 x) u [.ref (x 10), .int p0] (f_X1_enter u p0).1 (f_X1_enter u p0).2 := by
  refine Met.ofW (cc := cX1_enter) (maxL := 2) (ret := (some .int)) (by decide) rfl ?_
  intro p e s m args below meth c s₁ B hml hv
  obtain ⟨rfl, hP, hK⟩ := hv
  have hx := B.exec
  have hb := B.bytes
  have hr := B.returns
  have hts := atoms_spec (ws := .code yX1_enter cX1_enter 2 (some .int) :: gtbl) B.pre
  have hg : ∀ w ∈ gtbl, w.before _ s = true := fun w h => hts w (List.mem_cons_of_mem _ h)
  have hown : s.vm.findClass RX1 = some m.cls := findClass_of_methodNamed B.named
  have hlocks := B.notSynchronized
  have hS : va_S (g_bA 13 x) s.heap s.heap [] := va_S.rf
  have hl := lv_entry ([.ref (x 10), .int p0]) (n := 2) (Nat.le_of_ble_eq_true rfl)
  rw [lg_entry_eq]
  generalize (lg_sl ([.ref (x 10), .int p0]) ++ List.replicate (2 - (lg_sl ([.ref (x 10), .int p0])).length) Slot.unset).toArray = ls at hl ⊢
  have hl : lv_has ls 2 [(0, .ref (x 10)), (1, .int p0)] := hl
  obtain ⟨F, hF⟩ : ∃ F, f_X1_enter u p0 = F := ⟨_, rfl⟩
  rw [hF]
  refine lv_aload_n hx hb dX1_enter_0 rfl (lv_at hl 0 rfl) ?_
  refine ge_X1_depth hx hb hg hown kf_X1_32 hK hP dX1_enter_1 ?_
  refine lv_if_lt (tgt := 16) hx hb dX1_enter_4 (by decide) (fun c1 => ?_) (fun c1 => ?_)
  · have hF := (if_pos c1).symm.trans hF
    have hok := Eq.mp (if_pos c1) hok
    refine lv_iconst (v := 3) hx hb dX1_enter_16 (by decide) ?_
    have hF : (_, _) = F := hF
    exact g_iret hx hb hr hlocks hP hS dX1_enter_17 (g_p1 hF) (g_p2 hF)
  · have hF := (if_neg c1).symm.trans hF
    have hok := Eq.mp (if_neg c1) hok
    refine lv_aload_n hx hb dX1_enter_7 rfl (lv_at hl 0 rfl) ?_
    refine ge_X1_depth hx hb hg hown kf_X1_32 hK hP dX1_enter_8 ?_
    refine lv_bipush (v := 12) hx hb dX1_enter_11 (by decide) ?_
    refine lv_icmp_lt (tgt := 18) hx hb dX1_enter_13 (by decide) (fun c2 => ?_) (fun c2 => ?_)
    · have hF := (if_pos c2).symm.trans hF
      have hok := Eq.mp (if_pos c2) hok
      refine lv_aload_n hx hb dX1_enter_18 rfl (lv_at hl 0 rfl) ?_
      refine ge_X1_stack hx hb hg hown kf_X1_13 hK hP dX1_enter_19 ?_
      refine lv_aload_n hx hb dX1_enter_22 rfl (lv_at hl 0 rfl) ?_
      refine ge_X1_depth hx hb hg hown kf_X1_32 hK hP dX1_enter_23 ?_
      refine lv_aload_n hx hb dX1_enter_26 rfl (lv_at hl 0 rfl) ?_
      refine ge_X1_pc hx hb hg hown kf_X1_16 hK hP dX1_enter_27 ?_
      obtain ⟨c3, hok⟩ := hok
      refine ba_stk hi hx hb hK hP hS c3 dX1_enter_30 (fun H locs hP hS => ?_)
      refine lv_aload_n hx hb dX1_enter_31 rfl (lv_at hl 0 rfl) ?_
      refine lv_dup hx hb dX1_enter_32 rfl ?_
      refine ge_X1_depth hx hb hg hown kf_X1_32 hK hP dX1_enter_33 ?_
      refine lv_iconst (v := 1) hx hb dX1_enter_36 (by decide) ?_
      refine lv_iadd hx hb dX1_enter_37 ?_
      refine pu_X1_depth hi hx hb hg hown kf_X1_32 hK hP hS dX1_enter_38 (fun H locs hP hS => ?_)
      refine lv_aload_n hx hb dX1_enter_41 rfl (lv_at hl 0 rfl) ?_
      refine lv_iload_n hx hb dX1_enter_42 rfl (lv_at hl 1 rfl) ?_
      refine g_Vv hx hb hml hown hg (c_X1_jump l dC dI cI cZ x hi _ _) cs_X1_50 rfl rfl ⟨Nat.le_of_ble_eq_true rfl, Nat.le_of_ble_eq_true rfl⟩ hK hP hS (q0 := 10) rfl rfl rfl hl.1 rfl (Nat.le_of_ble_eq_true rfl) dX1_enter_43 ⟨Nat.zero_le _, Nat.zero_le _⟩ (fun H locs hP hS => ?_)
      refine lv_iconst (v := 0) hx hb dX1_enter_46 (by decide) ?_
      have hF : (_, _) = F := hF
      exact g_iret hx hb hr hlocks hP hS dX1_enter_47 (g_p1 hF) (g_p2 hF)
    · have hF := (if_neg c2).symm.trans hF
      have hok := Eq.mp (if_neg c2) hok
      refine lv_iconst (v := 3) hx hb dX1_enter_16 (by decide) ?_
      have hF : (_, _) = F := hF
      exact g_iret hx hb hr hlocks hP hS dX1_enter_17 (g_p1 hF) (g_p2 hF)
def f_X1_compare (u : BS) (p0 : Int32) (p1 : Int32) : Int32 × BS :=
  if (p0 &&& 15) = 0 then
    if (p0 >>> ((12 : Int32) &&& 31)) = 5 then
      let r1 : Int32 × BS := f_X1_skipIf u p1
      (r1.1, r1.2)
    else
      if p1 = 0 then
        let r2 : Int32 × BS := f_X1_skipIf u 1
        (r2.1, r2.2)
      else
        let r3 : Int32 × BS := f_X1_skipIf u 0
        (r3.1, r3.2)
  else
    (2, u)
set_option maxHeartbeats 4000000 in
set_option maxRecDepth 100000 in
theorem c_X1_compare (l : Launch) (dC : Nat → ClassId) (dI : Nat → Nat → Nat) (cI cZ : ClassId) (x : Nat → Nat) (hi : g_inj 13 x) (u : BS) (p0 : Int32) (p1 : Int32) : g_Mi l yX1_compare (.code yX1_compare cX1_compare 3 (some .int)) { frames := 2, cells := 0, slots := 0, locals := 42 } (dC, dI) vwCl (tysW cI cZ) (wB x cI cZ) (g_bA 13 x) u [.ref (x 10), .int p0, .int p1] (f_X1_compare u p0 p1).1 (f_X1_compare u p0 p1).2 := by
  refine Met.ofW (cc := cX1_compare) (maxL := 3) (ret := (some .int)) (by decide) rfl ?_
  intro p e s m args below meth c s₁ B hml hv
  obtain ⟨rfl, hP, hK⟩ := hv
  have hx := B.exec
  have hb := B.bytes
  have hr := B.returns
  have hts := atoms_spec (ws := .code yX1_compare cX1_compare 3 (some .int) :: gtbl) B.pre
  have hg : ∀ w ∈ gtbl, w.before _ s = true := fun w h => hts w (List.mem_cons_of_mem _ h)
  have hown : s.vm.findClass RX1 = some m.cls := findClass_of_methodNamed B.named
  have hlocks := B.notSynchronized
  have hS : va_S (g_bA 13 x) s.heap s.heap [] := va_S.rf
  have hl := lv_entry ([.ref (x 10), .int p0, .int p1]) (n := 3) (Nat.le_of_ble_eq_true rfl)
  rw [lg_entry_eq]
  generalize (lg_sl ([.ref (x 10), .int p0, .int p1]) ++ List.replicate (3 - (lg_sl ([.ref (x 10), .int p0, .int p1])).length) Slot.unset).toArray = ls at hl ⊢
  have hl : lv_has ls 3 [(0, .ref (x 10)), (1, .int p0), (2, .int p1)] := hl
  obtain ⟨F, hF⟩ : ∃ F, f_X1_compare u p0 p1 = F := ⟨_, rfl⟩
  rw [hF]
  refine lv_iload_n hx hb dX1_compare_0 rfl (lv_at hl 1 rfl) ?_
  refine lv_bipush (v := 15) hx hb dX1_compare_1 (by decide) ?_
  refine lv_iand hx hb dX1_compare_3 ?_
  refine lv_if_eq (tgt := 9) hx hb dX1_compare_4 (by decide) (fun c1 => ?_) (fun c1 => ?_)
  · have hF := (if_pos c1).symm.trans hF
    refine lv_aload_n hx hb dX1_compare_9 rfl (lv_at hl 0 rfl) ?_
    refine lv_iload_n hx hb dX1_compare_10 rfl (lv_at hl 1 rfl) ?_
    refine lv_bipush (v := 12) hx hb dX1_compare_11 (by decide) ?_
    refine lv_ishr hx hb dX1_compare_13 ?_
    refine lv_iconst (v := 5) hx hb dX1_compare_14 (by decide) ?_
    refine lv_icmp_ne (tgt := 22) hx hb dX1_compare_15 (by decide) (fun c2 => ?_) (fun c2 => ?_)
    · have hF := (if_neg c2).symm.trans hF
      refine lv_iload_n hx hb dX1_compare_22 rfl (lv_at hl 2 rfl) ?_
      refine lv_if_ne (tgt := 30) hx hb dX1_compare_23 (by decide) (fun c3 => ?_) (fun c3 => ?_)
      · have hF := (if_neg c3).symm.trans hF
        refine lv_iconst (v := 0) hx hb dX1_compare_30 (by decide) ?_
        refine g_Vi hx hb hml hown hg (c_X1_skipIf l dC dI cI cZ x hi _ _) cs_X1_63 rfl rfl ⟨Nat.le_of_ble_eq_true rfl, Nat.le_of_ble_eq_true rfl⟩ hK hP hS (q0 := 10) rfl rfl rfl hl.1 rfl (Nat.le_of_ble_eq_true rfl) dX1_compare_31 ⟨Nat.zero_le _, Nat.zero_le _⟩ (fun H locs hP hS => ?_)
        have hF : (_, _) = F := hF
        exact g_iret hx hb hr hlocks hP hS dX1_compare_34 (g_p1 hF) (g_p2 hF)
      · have hF := (if_pos c3).symm.trans hF
        refine lv_iconst (v := 1) hx hb dX1_compare_26 (by decide) ?_
        refine lv_goto (tgt := 31) hx hb dX1_compare_27 (by decide) ?_
        refine g_Vi hx hb hml hown hg (c_X1_skipIf l dC dI cI cZ x hi _ _) cs_X1_63 rfl rfl ⟨Nat.le_of_ble_eq_true rfl, Nat.le_of_ble_eq_true rfl⟩ hK hP hS (q0 := 10) rfl rfl rfl hl.1 rfl (Nat.le_of_ble_eq_true rfl) dX1_compare_31 ⟨Nat.zero_le _, Nat.zero_le _⟩ (fun H locs hP hS => ?_)
        have hF : (_, _) = F := hF
        exact g_iret hx hb hr hlocks hP hS dX1_compare_34 (g_p1 hF) (g_p2 hF)
    · have hF := (if_pos c2).symm.trans hF
      refine lv_iload_n hx hb dX1_compare_18 rfl (lv_at hl 2 rfl) ?_
      refine lv_goto (tgt := 31) hx hb dX1_compare_19 (by decide) ?_
      refine g_Vi hx hb hml hown hg (c_X1_skipIf l dC dI cI cZ x hi _ _) cs_X1_63 rfl rfl ⟨Nat.le_of_ble_eq_true rfl, Nat.le_of_ble_eq_true rfl⟩ hK hP hS (q0 := 10) rfl rfl rfl hl.1 rfl (Nat.le_of_ble_eq_true rfl) dX1_compare_31 ⟨Nat.zero_le _, Nat.zero_le _⟩ (fun H locs hP hS => ?_)
      have hF : (_, _) = F := hF
      exact g_iret hx hb hr hlocks hP hS dX1_compare_34 (g_p1 hF) (g_p2 hF)
  · have hF := (if_neg c1).symm.trans hF
    refine lv_iconst (v := 2) hx hb dX1_compare_7 (by decide) ?_
    have hF : (_, _) = F := hF
    exact g_iret hx hb hr hlocks hP hS dX1_compare_8 (g_p1 hF) (g_p2 hF)
def f_X1_putWithFlag (u : BS) (p0 : Int32) (p1 : Int32) (p2 : Int32) : Int32 × BS :=
  let r1 : BS := f_X1_putVariable u p0 p1
  if p2 = 0 then
    let r2 : BS := f_X1_putVariable r1 15 0
    (0, r2)
  else
    let r3 : BS := f_X1_putVariable r1 15 1
    (0, r3)
set_option maxHeartbeats 4000000 in
set_option maxRecDepth 100000 in
theorem c_X1_putWithFlag (l : Launch) (dC : Nat → ClassId) (dI : Nat → Nat → Nat) (cI cZ : ClassId) (x : Nat → Nat) (hi : g_inj 13 x) (u : BS) (p0 : Int32) (p1 : Int32) (p2 : Int32) : g_Mi l yX1_putWithFlag (.code yX1_putWithFlag cX1_putWithFlag 4 (some .int)) { frames := 1, cells := 0, slots := 0, locals := 22 } (dC, dI) vwCl (tysW cI cZ) (wB x cI cZ) (g_bA 13 x) u [.ref (x 10), .int p0, .int p1, .int p2] (f_X1_putWithFlag u p0 p1 p2).1 (f_X1_putWithFlag u p0 p1 p2).2 := by
  refine Met.ofW (cc := cX1_putWithFlag) (maxL := 4) (ret := (some .int)) (by decide) rfl ?_
  intro p e s m args below meth c s₁ B hml hv
  obtain ⟨rfl, hP, hK⟩ := hv
  have hx := B.exec
  have hb := B.bytes
  have hr := B.returns
  have hts := atoms_spec (ws := .code yX1_putWithFlag cX1_putWithFlag 4 (some .int) :: gtbl) B.pre
  have hg : ∀ w ∈ gtbl, w.before _ s = true := fun w h => hts w (List.mem_cons_of_mem _ h)
  have hown : s.vm.findClass RX1 = some m.cls := findClass_of_methodNamed B.named
  have hlocks := B.notSynchronized
  have hS : va_S (g_bA 13 x) s.heap s.heap [] := va_S.rf
  have hl := lv_entry ([.ref (x 10), .int p0, .int p1, .int p2]) (n := 4) (Nat.le_of_ble_eq_true rfl)
  rw [lg_entry_eq]
  generalize (lg_sl ([.ref (x 10), .int p0, .int p1, .int p2]) ++ List.replicate (4 - (lg_sl ([.ref (x 10), .int p0, .int p1, .int p2])).length) Slot.unset).toArray = ls at hl ⊢
  have hl : lv_has ls 4 [(0, .ref (x 10)), (1, .int p0), (2, .int p1), (3, .int p2)] := hl
  obtain ⟨F, hF⟩ : ∃ F, f_X1_putWithFlag u p0 p1 p2 = F := ⟨_, rfl⟩
  rw [hF]
  refine lv_aload_n hx hb dX1_putWithFlag_0 rfl (lv_at hl 0 rfl) ?_
  refine lv_iload_n hx hb dX1_putWithFlag_1 rfl (lv_at hl 1 rfl) ?_
  refine lv_iload_n hx hb dX1_putWithFlag_2 rfl (lv_at hl 2 rfl) ?_
  refine g_Vv hx hb hml hown hg (c_X1_putVariable l dC dI cI cZ x hi _ _ _) cs_X1_71 rfl rfl ⟨Nat.le_of_ble_eq_true rfl, Nat.le_of_ble_eq_true rfl⟩ hK hP hS (q0 := 10) rfl rfl rfl hl.1 rfl (Nat.le_of_ble_eq_true rfl) dX1_putWithFlag_3 ⟨Nat.zero_le _, Nat.zero_le _⟩ (fun H locs hP hS => ?_)
  refine lv_aload_n hx hb dX1_putWithFlag_6 rfl (lv_at hl 0 rfl) ?_
  refine lv_bipush (v := 15) hx hb dX1_putWithFlag_7 (by decide) ?_
  refine lv_iload_n hx hb dX1_putWithFlag_9 rfl (lv_at hl 3 rfl) ?_
  refine lv_if_eq (tgt := 17) hx hb dX1_putWithFlag_10 (by decide) (fun c1 => ?_) (fun c1 => ?_)
  · have hF := (if_pos c1).symm.trans hF
    refine lv_iconst (v := 0) hx hb dX1_putWithFlag_17 (by decide) ?_
    refine g_Vv hx hb hml hown hg (c_X1_putVariable l dC dI cI cZ x hi _ _ _) cs_X1_71 rfl rfl ⟨Nat.le_of_ble_eq_true rfl, Nat.le_of_ble_eq_true rfl⟩ hK hP hS (q0 := 10) rfl rfl rfl hl.1 rfl (Nat.le_of_ble_eq_true rfl) dX1_putWithFlag_18 ⟨Nat.zero_le _, Nat.zero_le _⟩ (fun H locs hP hS => ?_)
    refine lv_iconst (v := 0) hx hb dX1_putWithFlag_21 (by decide) ?_
    have hF : (_, _) = F := hF
    exact g_iret hx hb hr hlocks hP hS dX1_putWithFlag_22 (g_p1 hF) (g_p2 hF)
  · have hF := (if_neg c1).symm.trans hF
    refine lv_iconst (v := 1) hx hb dX1_putWithFlag_13 (by decide) ?_
    refine lv_goto (tgt := 18) hx hb dX1_putWithFlag_14 (by decide) ?_
    refine g_Vv hx hb hml hown hg (c_X1_putVariable l dC dI cI cZ x hi _ _ _) cs_X1_71 rfl rfl ⟨Nat.le_of_ble_eq_true rfl, Nat.le_of_ble_eq_true rfl⟩ hK hP hS (q0 := 10) rfl rfl rfl hl.1 rfl (Nat.le_of_ble_eq_true rfl) dX1_putWithFlag_18 ⟨Nat.zero_le _, Nat.zero_le _⟩ (fun H locs hP hS => ?_)
    refine lv_iconst (v := 0) hx hb dX1_putWithFlag_21 (by decide) ?_
    have hF : (_, _) = F := hF
    exact g_iret hx hb hr hlocks hP hS dX1_putWithFlag_22 (g_p1 hF) (g_p2 hF)
def f_X1_combine (u : BS) (p0 : Int32) (p1 : Int32) (p2 : Int32) : Int32 × BS :=
  let t1 : Int32 := (f_X1_variable u p1)
  if p0 = 0 then
    let r2 : BS := f_X1_putVariable u p1 p2
    (0, r2)
  else
    if p0 = 1 then
      let r3 : BS := f_X1_putVariable u p1 (t1 ||| p2)
      (0, r3)
    else
      if p0 = 2 then
        let r4 : BS := f_X1_putVariable u p1 (t1 &&& p2)
        (0, r4)
      else
        if p0 = 3 then
          let r5 : BS := f_X1_putVariable u p1 (t1 ^^^ p2)
          (0, r5)
        else
          if p0 = 4 then
            if (t1 + p2) ≤ 255 then
              let r6 : Int32 × BS := f_X1_putWithFlag u p1 (t1 + p2) 0
              (r6.1, r6.2)
            else
              let r7 : Int32 × BS := f_X1_putWithFlag u p1 (t1 + p2) 1
              (r7.1, r7.2)
          else
            if p0 = 5 then
              if t1 < p2 then
                let r8 : Int32 × BS := f_X1_putWithFlag u p1 (t1 - p2) 0
                (r8.1, r8.2)
              else
                let r9 : Int32 × BS := f_X1_putWithFlag u p1 (t1 - p2) 1
                (r9.1, r9.2)
            else
              if p0 = 6 then
                if (p2 &&& 1) = 1 then
                  let r10 : Int32 × BS := f_X1_putWithFlag u p1 (p2 >>> ((1 : Int32) &&& 31)) 1
                  (r10.1, r10.2)
                else
                  let r11 : Int32 × BS := f_X1_putWithFlag u p1 (p2 >>> ((1 : Int32) &&& 31)) 0
                  (r11.1, r11.2)
              else
                if p0 = 7 then
                  if p2 < t1 then
                    let r12 : Int32 × BS := f_X1_putWithFlag u p1 (p2 - t1) 0
                    (r12.1, r12.2)
                  else
                    let r13 : Int32 × BS := f_X1_putWithFlag u p1 (p2 - t1) 1
                    (r13.1, r13.2)
                else
                  if p0 = 14 then
                    if p2 ≤ 127 then
                      let r14 : Int32 × BS := f_X1_putWithFlag u p1 (p2 <<< ((1 : Int32) &&& 31)) 0
                      (r14.1, r14.2)
                    else
                      let r15 : Int32 × BS := f_X1_putWithFlag u p1 (p2 <<< ((1 : Int32) &&& 31)) 1
                      (r15.1, r15.2)
                  else
                    (2, u)
set_option maxHeartbeats 4000000 in
set_option maxRecDepth 100000 in
theorem c_X1_combine (l : Launch) (dC : Nat → ClassId) (dI : Nat → Nat → Nat) (cI cZ : ClassId) (x : Nat → Nat) (hi : g_inj 13 x) (u : BS) (p0 : Int32) (p1 : Int32) (p2 : Int32) : g_Mi l yX1_combine (.code yX1_combine cX1_combine 5 (some .int)) { frames := 2, cells := 0, slots := 0, locals := 45 } (dC, dI) vwCl (tysW cI cZ) (wB x cI cZ) (g_bA 13 x) u [.ref (x 10), .int p0, .int p1, .int p2] (f_X1_combine u p0 p1 p2).1 (f_X1_combine u p0 p1 p2).2 := by
  refine Met.ofW (cc := cX1_combine) (maxL := 5) (ret := (some .int)) (by decide) rfl ?_
  intro p e s m args below meth c s₁ B hml hv
  obtain ⟨rfl, hP, hK⟩ := hv
  have hx := B.exec
  have hb := B.bytes
  have hr := B.returns
  have hts := atoms_spec (ws := .code yX1_combine cX1_combine 5 (some .int) :: gtbl) B.pre
  have hg : ∀ w ∈ gtbl, w.before _ s = true := fun w h => hts w (List.mem_cons_of_mem _ h)
  have hown : s.vm.findClass RX1 = some m.cls := findClass_of_methodNamed B.named
  have hlocks := B.notSynchronized
  have hS : va_S (g_bA 13 x) s.heap s.heap [] := va_S.rf
  have hl := lv_entry ([.ref (x 10), .int p0, .int p1, .int p2]) (n := 5) (Nat.le_of_ble_eq_true rfl)
  rw [lg_entry_eq]
  generalize (lg_sl ([.ref (x 10), .int p0, .int p1, .int p2]) ++ List.replicate (5 - (lg_sl ([.ref (x 10), .int p0, .int p1, .int p2])).length) Slot.unset).toArray = ls at hl ⊢
  have hl : lv_has ls 5 [(0, .ref (x 10)), (1, .int p0), (2, .int p1), (3, .int p2)] := hl
  obtain ⟨F, hF⟩ : ∃ F, f_X1_combine u p0 p1 p2 = F := ⟨_, rfl⟩
  rw [hF]
  refine lv_aload_n hx hb dX1_combine_0 rfl (lv_at hl 0 rfl) ?_
  refine lv_iload_n hx hb dX1_combine_1 rfl (lv_at hl 2 rfl) ?_
  refine g_Vi hx hb hml hown hg (c_X1_variable l dC dI cI cZ x hi _ _) cs_X1_41 rfl rfl ⟨Nat.le_of_ble_eq_true rfl, Nat.le_of_ble_eq_true rfl⟩ hK hP hS (q0 := 10) rfl rfl rfl hl.1 rfl (Nat.le_of_ble_eq_true rfl) dX1_combine_2 ⟨Nat.zero_le _, Nat.zero_le _⟩ (fun H locs hP hS => ?_)
  refine lv_istore hx hb dX1_combine_5 hl (by decide) rfl (fun ls hl => ?_)
  have hl : lv_has ls 5 [(4, _), (0, _), (1, _), (2, _), (3, _)] := hl
  refine lv_iload_n hx hb dX1_combine_7 rfl (lv_at hl 2 rfl) ?_
  refine sw_case (v := 0) (fun c1 => ?_) (fun c1 => ?_)
  · have hF := (if_pos c1).symm.trans hF
    refine sw_in (off := 76) (tgt := 84) 0 hx hb dX1_combine_8 c1 (by decide) (by decide) ?_
    refine lv_aload_n hx hb dX1_combine_84 rfl (lv_at hl 1 rfl) ?_
    refine lv_iload_n hx hb dX1_combine_85 rfl (lv_at hl 3 rfl) ?_
    refine lv_iload_n hx hb dX1_combine_86 rfl (lv_at hl 4 rfl) ?_
    refine g_Vv hx hb hml hown hg (c_X1_putVariable l dC dI cI cZ x hi _ _ _) cs_X1_71 rfl rfl ⟨Nat.le_of_ble_eq_true rfl, Nat.le_of_ble_eq_true rfl⟩ hK hP hS (q0 := 10) rfl rfl rfl hl.1 rfl (Nat.le_of_ble_eq_true rfl) dX1_combine_87 ⟨Nat.zero_le _, Nat.zero_le _⟩ (fun H locs hP hS => ?_)
    refine lv_iconst (v := 0) hx hb dX1_combine_90 (by decide) ?_
    have hF : (_, _) = F := hF
    exact g_iret hx hb hr hlocks hP hS dX1_combine_91 (g_p1 hF) (g_p2 hF)
  · have hF := (if_neg c1).symm.trans hF
    refine sw_case (v := 1) (fun c2 => ?_) (fun c2 => ?_)
    · have hF := (if_pos c2).symm.trans hF
      refine sw_in (off := 84) (tgt := 92) 1 hx hb dX1_combine_8 c2 (by decide) (by decide) ?_
      refine lv_aload_n hx hb dX1_combine_92 rfl (lv_at hl 1 rfl) ?_
      refine lv_iload_n hx hb dX1_combine_93 rfl (lv_at hl 3 rfl) ?_
      refine lv_iload hx hb dX1_combine_94 (lv_at hl 0 rfl) ?_
      refine lv_iload_n hx hb dX1_combine_96 rfl (lv_at hl 4 rfl) ?_
      refine lv_ior hx hb dX1_combine_97 ?_
      refine g_Vv hx hb hml hown hg (c_X1_putVariable l dC dI cI cZ x hi _ _ _) cs_X1_71 rfl rfl ⟨Nat.le_of_ble_eq_true rfl, Nat.le_of_ble_eq_true rfl⟩ hK hP hS (q0 := 10) rfl rfl rfl hl.1 rfl (Nat.le_of_ble_eq_true rfl) dX1_combine_98 ⟨Nat.zero_le _, Nat.zero_le _⟩ (fun H locs hP hS => ?_)
      refine lv_iconst (v := 0) hx hb dX1_combine_101 (by decide) ?_
      have hF : (_, _) = F := hF
      exact g_iret hx hb hr hlocks hP hS dX1_combine_102 (g_p1 hF) (g_p2 hF)
    · have hF := (if_neg c2).symm.trans hF
      refine sw_case (v := 2) (fun c3 => ?_) (fun c3 => ?_)
      · have hF := (if_pos c3).symm.trans hF
        refine sw_in (off := 95) (tgt := 103) 2 hx hb dX1_combine_8 c3 (by decide) (by decide) ?_
        refine lv_aload_n hx hb dX1_combine_103 rfl (lv_at hl 1 rfl) ?_
        refine lv_iload_n hx hb dX1_combine_104 rfl (lv_at hl 3 rfl) ?_
        refine lv_iload hx hb dX1_combine_105 (lv_at hl 0 rfl) ?_
        refine lv_iload_n hx hb dX1_combine_107 rfl (lv_at hl 4 rfl) ?_
        refine lv_iand hx hb dX1_combine_108 ?_
        refine g_Vv hx hb hml hown hg (c_X1_putVariable l dC dI cI cZ x hi _ _ _) cs_X1_71 rfl rfl ⟨Nat.le_of_ble_eq_true rfl, Nat.le_of_ble_eq_true rfl⟩ hK hP hS (q0 := 10) rfl rfl rfl hl.1 rfl (Nat.le_of_ble_eq_true rfl) dX1_combine_109 ⟨Nat.zero_le _, Nat.zero_le _⟩ (fun H locs hP hS => ?_)
        refine lv_iconst (v := 0) hx hb dX1_combine_112 (by decide) ?_
        have hF : (_, _) = F := hF
        exact g_iret hx hb hr hlocks hP hS dX1_combine_113 (g_p1 hF) (g_p2 hF)
      · have hF := (if_neg c3).symm.trans hF
        refine sw_case (v := 3) (fun c4 => ?_) (fun c4 => ?_)
        · have hF := (if_pos c4).symm.trans hF
          refine sw_in (off := 106) (tgt := 114) 3 hx hb dX1_combine_8 c4 (by decide) (by decide) ?_
          refine lv_aload_n hx hb dX1_combine_114 rfl (lv_at hl 1 rfl) ?_
          refine lv_iload_n hx hb dX1_combine_115 rfl (lv_at hl 3 rfl) ?_
          refine lv_iload hx hb dX1_combine_116 (lv_at hl 0 rfl) ?_
          refine lv_iload_n hx hb dX1_combine_118 rfl (lv_at hl 4 rfl) ?_
          refine lv_ixor hx hb dX1_combine_119 ?_
          refine g_Vv hx hb hml hown hg (c_X1_putVariable l dC dI cI cZ x hi _ _ _) cs_X1_71 rfl rfl ⟨Nat.le_of_ble_eq_true rfl, Nat.le_of_ble_eq_true rfl⟩ hK hP hS (q0 := 10) rfl rfl rfl hl.1 rfl (Nat.le_of_ble_eq_true rfl) dX1_combine_120 ⟨Nat.zero_le _, Nat.zero_le _⟩ (fun H locs hP hS => ?_)
          refine lv_iconst (v := 0) hx hb dX1_combine_123 (by decide) ?_
          have hF : (_, _) = F := hF
          exact g_iret hx hb hr hlocks hP hS dX1_combine_124 (g_p1 hF) (g_p2 hF)
        · have hF := (if_neg c4).symm.trans hF
          refine sw_case (v := 4) (fun c5 => ?_) (fun c5 => ?_)
          · have hF := (if_pos c5).symm.trans hF
            refine sw_in (off := 117) (tgt := 125) 4 hx hb dX1_combine_8 c5 (by decide) (by decide) ?_
            refine lv_aload_n hx hb dX1_combine_125 rfl (lv_at hl 1 rfl) ?_
            refine lv_iload_n hx hb dX1_combine_126 rfl (lv_at hl 3 rfl) ?_
            refine lv_iload hx hb dX1_combine_127 (lv_at hl 0 rfl) ?_
            refine lv_iload_n hx hb dX1_combine_129 rfl (lv_at hl 4 rfl) ?_
            refine lv_iadd hx hb dX1_combine_130 ?_
            refine lv_iload hx hb dX1_combine_131 (lv_at hl 0 rfl) ?_
            refine lv_iload_n hx hb dX1_combine_133 rfl (lv_at hl 4 rfl) ?_
            refine lv_iadd hx hb dX1_combine_134 ?_
            refine lv_sipush (v := 255) hx hb dX1_combine_135 (by decide) ?_
            refine lv_icmp_le (tgt := 145) hx hb dX1_combine_138 (by decide) (fun c6 => ?_) (fun c6 => ?_)
            · have hF := (if_pos c6).symm.trans hF
              refine lv_iconst (v := 0) hx hb dX1_combine_145 (by decide) ?_
              refine g_Vi hx hb hml hown hg (c_X1_putWithFlag l dC dI cI cZ x hi _ _ _ _) cs_X1_112 rfl rfl ⟨Nat.le_of_ble_eq_true rfl, Nat.le_of_ble_eq_true rfl⟩ hK hP hS (q0 := 10) rfl rfl rfl hl.1 rfl (Nat.le_of_ble_eq_true rfl) dX1_combine_146 ⟨Nat.zero_le _, Nat.zero_le _⟩ (fun H locs hP hS => ?_)
              have hF : (_, _) = F := hF
              exact g_iret hx hb hr hlocks hP hS dX1_combine_149 (g_p1 hF) (g_p2 hF)
            · have hF := (if_neg c6).symm.trans hF
              refine lv_iconst (v := 1) hx hb dX1_combine_141 (by decide) ?_
              refine lv_goto (tgt := 146) hx hb dX1_combine_142 (by decide) ?_
              refine g_Vi hx hb hml hown hg (c_X1_putWithFlag l dC dI cI cZ x hi _ _ _ _) cs_X1_112 rfl rfl ⟨Nat.le_of_ble_eq_true rfl, Nat.le_of_ble_eq_true rfl⟩ hK hP hS (q0 := 10) rfl rfl rfl hl.1 rfl (Nat.le_of_ble_eq_true rfl) dX1_combine_146 ⟨Nat.zero_le _, Nat.zero_le _⟩ (fun H locs hP hS => ?_)
              have hF : (_, _) = F := hF
              exact g_iret hx hb hr hlocks hP hS dX1_combine_149 (g_p1 hF) (g_p2 hF)
          · have hF := (if_neg c5).symm.trans hF
            refine sw_case (v := 5) (fun c7 => ?_) (fun c7 => ?_)
            · have hF := (if_pos c7).symm.trans hF
              refine sw_in (off := 142) (tgt := 150) 5 hx hb dX1_combine_8 c7 (by decide) (by decide) ?_
              refine lv_aload_n hx hb dX1_combine_150 rfl (lv_at hl 1 rfl) ?_
              refine lv_iload_n hx hb dX1_combine_151 rfl (lv_at hl 3 rfl) ?_
              refine lv_iload hx hb dX1_combine_152 (lv_at hl 0 rfl) ?_
              refine lv_iload_n hx hb dX1_combine_154 rfl (lv_at hl 4 rfl) ?_
              refine lv_isub hx hb dX1_combine_155 ?_
              refine lv_iload hx hb dX1_combine_156 (lv_at hl 0 rfl) ?_
              refine lv_iload_n hx hb dX1_combine_158 rfl (lv_at hl 4 rfl) ?_
              refine lv_icmp_lt (tgt := 166) hx hb dX1_combine_159 (by decide) (fun c8 => ?_) (fun c8 => ?_)
              · have hF := (if_pos c8).symm.trans hF
                refine lv_iconst (v := 0) hx hb dX1_combine_166 (by decide) ?_
                refine g_Vi hx hb hml hown hg (c_X1_putWithFlag l dC dI cI cZ x hi _ _ _ _) cs_X1_112 rfl rfl ⟨Nat.le_of_ble_eq_true rfl, Nat.le_of_ble_eq_true rfl⟩ hK hP hS (q0 := 10) rfl rfl rfl hl.1 rfl (Nat.le_of_ble_eq_true rfl) dX1_combine_167 ⟨Nat.zero_le _, Nat.zero_le _⟩ (fun H locs hP hS => ?_)
                have hF : (_, _) = F := hF
                exact g_iret hx hb hr hlocks hP hS dX1_combine_170 (g_p1 hF) (g_p2 hF)
              · have hF := (if_neg c8).symm.trans hF
                refine lv_iconst (v := 1) hx hb dX1_combine_162 (by decide) ?_
                refine lv_goto (tgt := 167) hx hb dX1_combine_163 (by decide) ?_
                refine g_Vi hx hb hml hown hg (c_X1_putWithFlag l dC dI cI cZ x hi _ _ _ _) cs_X1_112 rfl rfl ⟨Nat.le_of_ble_eq_true rfl, Nat.le_of_ble_eq_true rfl⟩ hK hP hS (q0 := 10) rfl rfl rfl hl.1 rfl (Nat.le_of_ble_eq_true rfl) dX1_combine_167 ⟨Nat.zero_le _, Nat.zero_le _⟩ (fun H locs hP hS => ?_)
                have hF : (_, _) = F := hF
                exact g_iret hx hb hr hlocks hP hS dX1_combine_170 (g_p1 hF) (g_p2 hF)
            · have hF := (if_neg c7).symm.trans hF
              refine sw_case (v := 6) (fun c9 => ?_) (fun c9 => ?_)
              · have hF := (if_pos c9).symm.trans hF
                refine sw_in (off := 163) (tgt := 171) 6 hx hb dX1_combine_8 c9 (by decide) (by decide) ?_
                refine lv_aload_n hx hb dX1_combine_171 rfl (lv_at hl 1 rfl) ?_
                refine lv_iload_n hx hb dX1_combine_172 rfl (lv_at hl 3 rfl) ?_
                refine lv_iload_n hx hb dX1_combine_173 rfl (lv_at hl 4 rfl) ?_
                refine lv_iconst (v := 1) hx hb dX1_combine_174 (by decide) ?_
                refine lv_ishr hx hb dX1_combine_175 ?_
                refine lv_iload_n hx hb dX1_combine_176 rfl (lv_at hl 4 rfl) ?_
                refine lv_iconst (v := 1) hx hb dX1_combine_177 (by decide) ?_
                refine lv_iand hx hb dX1_combine_178 ?_
                refine lv_iconst (v := 1) hx hb dX1_combine_179 (by decide) ?_
                refine lv_icmp_ne (tgt := 187) hx hb dX1_combine_180 (by decide) (fun c10 => ?_) (fun c10 => ?_)
                · have hF := (if_neg c10).symm.trans hF
                  refine lv_iconst (v := 0) hx hb dX1_combine_187 (by decide) ?_
                  refine g_Vi hx hb hml hown hg (c_X1_putWithFlag l dC dI cI cZ x hi _ _ _ _) cs_X1_112 rfl rfl ⟨Nat.le_of_ble_eq_true rfl, Nat.le_of_ble_eq_true rfl⟩ hK hP hS (q0 := 10) rfl rfl rfl hl.1 rfl (Nat.le_of_ble_eq_true rfl) dX1_combine_188 ⟨Nat.zero_le _, Nat.zero_le _⟩ (fun H locs hP hS => ?_)
                  have hF : (_, _) = F := hF
                  exact g_iret hx hb hr hlocks hP hS dX1_combine_191 (g_p1 hF) (g_p2 hF)
                · have hF := (if_pos c10).symm.trans hF
                  refine lv_iconst (v := 1) hx hb dX1_combine_183 (by decide) ?_
                  refine lv_goto (tgt := 188) hx hb dX1_combine_184 (by decide) ?_
                  refine g_Vi hx hb hml hown hg (c_X1_putWithFlag l dC dI cI cZ x hi _ _ _ _) cs_X1_112 rfl rfl ⟨Nat.le_of_ble_eq_true rfl, Nat.le_of_ble_eq_true rfl⟩ hK hP hS (q0 := 10) rfl rfl rfl hl.1 rfl (Nat.le_of_ble_eq_true rfl) dX1_combine_188 ⟨Nat.zero_le _, Nat.zero_le _⟩ (fun H locs hP hS => ?_)
                  have hF : (_, _) = F := hF
                  exact g_iret hx hb hr hlocks hP hS dX1_combine_191 (g_p1 hF) (g_p2 hF)
              · have hF := (if_neg c9).symm.trans hF
                refine sw_case (v := 7) (fun c11 => ?_) (fun c11 => ?_)
                · have hF := (if_pos c11).symm.trans hF
                  refine sw_in (off := 184) (tgt := 192) 7 hx hb dX1_combine_8 c11 (by decide) (by decide) ?_
                  refine lv_aload_n hx hb dX1_combine_192 rfl (lv_at hl 1 rfl) ?_
                  refine lv_iload_n hx hb dX1_combine_193 rfl (lv_at hl 3 rfl) ?_
                  refine lv_iload_n hx hb dX1_combine_194 rfl (lv_at hl 4 rfl) ?_
                  refine lv_iload hx hb dX1_combine_195 (lv_at hl 0 rfl) ?_
                  refine lv_isub hx hb dX1_combine_197 ?_
                  refine lv_iload_n hx hb dX1_combine_198 rfl (lv_at hl 4 rfl) ?_
                  refine lv_iload hx hb dX1_combine_199 (lv_at hl 0 rfl) ?_
                  refine lv_icmp_lt (tgt := 208) hx hb dX1_combine_201 (by decide) (fun c12 => ?_) (fun c12 => ?_)
                  · have hF := (if_pos c12).symm.trans hF
                    refine lv_iconst (v := 0) hx hb dX1_combine_208 (by decide) ?_
                    refine g_Vi hx hb hml hown hg (c_X1_putWithFlag l dC dI cI cZ x hi _ _ _ _) cs_X1_112 rfl rfl ⟨Nat.le_of_ble_eq_true rfl, Nat.le_of_ble_eq_true rfl⟩ hK hP hS (q0 := 10) rfl rfl rfl hl.1 rfl (Nat.le_of_ble_eq_true rfl) dX1_combine_209 ⟨Nat.zero_le _, Nat.zero_le _⟩ (fun H locs hP hS => ?_)
                    have hF : (_, _) = F := hF
                    exact g_iret hx hb hr hlocks hP hS dX1_combine_212 (g_p1 hF) (g_p2 hF)
                  · have hF := (if_neg c12).symm.trans hF
                    refine lv_iconst (v := 1) hx hb dX1_combine_204 (by decide) ?_
                    refine lv_goto (tgt := 209) hx hb dX1_combine_205 (by decide) ?_
                    refine g_Vi hx hb hml hown hg (c_X1_putWithFlag l dC dI cI cZ x hi _ _ _ _) cs_X1_112 rfl rfl ⟨Nat.le_of_ble_eq_true rfl, Nat.le_of_ble_eq_true rfl⟩ hK hP hS (q0 := 10) rfl rfl rfl hl.1 rfl (Nat.le_of_ble_eq_true rfl) dX1_combine_209 ⟨Nat.zero_le _, Nat.zero_le _⟩ (fun H locs hP hS => ?_)
                    have hF : (_, _) = F := hF
                    exact g_iret hx hb hr hlocks hP hS dX1_combine_212 (g_p1 hF) (g_p2 hF)
                · have hF := (if_neg c11).symm.trans hF
                  refine sw_case (v := 14) (fun c13 => ?_) (fun c13 => ?_)
                  · have hF := (if_pos c13).symm.trans hF
                    refine sw_in (off := 205) (tgt := 213) 14 hx hb dX1_combine_8 c13 (by decide) (by decide) ?_
                    refine lv_aload_n hx hb dX1_combine_213 rfl (lv_at hl 1 rfl) ?_
                    refine lv_iload_n hx hb dX1_combine_214 rfl (lv_at hl 3 rfl) ?_
                    refine lv_iload_n hx hb dX1_combine_215 rfl (lv_at hl 4 rfl) ?_
                    refine lv_iconst (v := 1) hx hb dX1_combine_216 (by decide) ?_
                    refine lv_ishl hx hb dX1_combine_217 ?_
                    refine lv_iload_n hx hb dX1_combine_218 rfl (lv_at hl 4 rfl) ?_
                    refine lv_bipush (v := 127) hx hb dX1_combine_219 (by decide) ?_
                    refine lv_icmp_le (tgt := 228) hx hb dX1_combine_221 (by decide) (fun c14 => ?_) (fun c14 => ?_)
                    · have hF := (if_pos c14).symm.trans hF
                      refine lv_iconst (v := 0) hx hb dX1_combine_228 (by decide) ?_
                      refine g_Vi hx hb hml hown hg (c_X1_putWithFlag l dC dI cI cZ x hi _ _ _ _) cs_X1_112 rfl rfl ⟨Nat.le_of_ble_eq_true rfl, Nat.le_of_ble_eq_true rfl⟩ hK hP hS (q0 := 10) rfl rfl rfl hl.1 rfl (Nat.le_of_ble_eq_true rfl) dX1_combine_229 ⟨Nat.zero_le _, Nat.zero_le _⟩ (fun H locs hP hS => ?_)
                      have hF : (_, _) = F := hF
                      exact g_iret hx hb hr hlocks hP hS dX1_combine_232 (g_p1 hF) (g_p2 hF)
                    · have hF := (if_neg c14).symm.trans hF
                      refine lv_iconst (v := 1) hx hb dX1_combine_224 (by decide) ?_
                      refine lv_goto (tgt := 229) hx hb dX1_combine_225 (by decide) ?_
                      refine g_Vi hx hb hml hown hg (c_X1_putWithFlag l dC dI cI cZ x hi _ _ _ _) cs_X1_112 rfl rfl ⟨Nat.le_of_ble_eq_true rfl, Nat.le_of_ble_eq_true rfl⟩ hK hP hS (q0 := 10) rfl rfl rfl hl.1 rfl (Nat.le_of_ble_eq_true rfl) dX1_combine_229 ⟨Nat.zero_le _, Nat.zero_le _⟩ (fun H locs hP hS => ?_)
                      have hF : (_, _) = F := hF
                      exact g_iret hx hb hr hlocks hP hS dX1_combine_232 (g_p1 hF) (g_p2 hF)
                  · have hF := (if_neg c13).symm.trans hF
                    refine sw_def (tgt := 233) [0, 1, 2, 3, 4, 5, 6, 7, 14] hx hb dX1_combine_8 (List.forall_mem_cons.mpr ⟨c1, List.forall_mem_cons.mpr ⟨c2, List.forall_mem_cons.mpr ⟨c3, List.forall_mem_cons.mpr ⟨c4, List.forall_mem_cons.mpr ⟨c5, List.forall_mem_cons.mpr ⟨c7, List.forall_mem_cons.mpr ⟨c9, List.forall_mem_cons.mpr ⟨c11, List.forall_mem_cons.mpr ⟨c13, fun _ h => absurd h List.not_mem_nil⟩⟩⟩⟩⟩⟩⟩⟩⟩) (by decide) (by decide) ?_
                    refine lv_iconst (v := 2) hx hb dX1_combine_233 (by decide) ?_
                    have hF : (_, _) = F := hF
                    exact g_iret hx hb hr hlocks hP hS dX1_combine_234 (g_p1 hF) (g_p2 hF)
def f_X1_skipByKey (u : BS) (p0 : Int32) (p1 : Int32) : Int32 × BS :=
  if p0 = 158 then
    let r1 : Int32 × BS := f_X1_skipIf u p1
    (r1.1, r1.2)
  else
    if p0 = 161 then
      if p1 = 0 then
        let r2 : Int32 × BS := f_X1_skipIf u 1
        (r2.1, r2.2)
      else
        let r3 : Int32 × BS := f_X1_skipIf u 0
        (r3.1, r3.2)
    else
      (2, u)
set_option maxHeartbeats 4000000 in
set_option maxRecDepth 100000 in
theorem c_X1_skipByKey (l : Launch) (dC : Nat → ClassId) (dI : Nat → Nat → Nat) (cI cZ : ClassId) (x : Nat → Nat) (hi : g_inj 13 x) (u : BS) (p0 : Int32) (p1 : Int32) : g_Mi l yX1_skipByKey (.code yX1_skipByKey cX1_skipByKey 3 (some .int)) { frames := 2, cells := 0, slots := 0, locals := 42 } (dC, dI) vwCl (tysW cI cZ) (wB x cI cZ) (g_bA 13 x) u [.ref (x 10), .int p0, .int p1] (f_X1_skipByKey u p0 p1).1 (f_X1_skipByKey u p0 p1).2 := by
  refine Met.ofW (cc := cX1_skipByKey) (maxL := 3) (ret := (some .int)) (by decide) rfl ?_
  intro p e s m args below meth c s₁ B hml hv
  obtain ⟨rfl, hP, hK⟩ := hv
  have hx := B.exec
  have hb := B.bytes
  have hr := B.returns
  have hts := atoms_spec (ws := .code yX1_skipByKey cX1_skipByKey 3 (some .int) :: gtbl) B.pre
  have hg : ∀ w ∈ gtbl, w.before _ s = true := fun w h => hts w (List.mem_cons_of_mem _ h)
  have hown : s.vm.findClass RX1 = some m.cls := findClass_of_methodNamed B.named
  have hlocks := B.notSynchronized
  have hS : va_S (g_bA 13 x) s.heap s.heap [] := va_S.rf
  have hl := lv_entry ([.ref (x 10), .int p0, .int p1]) (n := 3) (Nat.le_of_ble_eq_true rfl)
  rw [lg_entry_eq]
  generalize (lg_sl ([.ref (x 10), .int p0, .int p1]) ++ List.replicate (3 - (lg_sl ([.ref (x 10), .int p0, .int p1])).length) Slot.unset).toArray = ls at hl ⊢
  have hl : lv_has ls 3 [(0, .ref (x 10)), (1, .int p0), (2, .int p1)] := hl
  obtain ⟨F, hF⟩ : ∃ F, f_X1_skipByKey u p0 p1 = F := ⟨_, rfl⟩
  rw [hF]
  refine lv_iload_n hx hb dX1_skipByKey_0 rfl (lv_at hl 1 rfl) ?_
  refine lv_sipush (v := 158) hx hb dX1_skipByKey_1 (by decide) ?_
  refine lv_icmp_ne (tgt := 13) hx hb dX1_skipByKey_4 (by decide) (fun c1 => ?_) (fun c1 => ?_)
  · have hF := (if_neg c1).symm.trans hF
    refine lv_iload_n hx hb dX1_skipByKey_13 rfl (lv_at hl 1 rfl) ?_
    refine lv_sipush (v := 161) hx hb dX1_skipByKey_14 (by decide) ?_
    refine lv_icmp_ne (tgt := 36) hx hb dX1_skipByKey_17 (by decide) (fun c2 => ?_) (fun c2 => ?_)
    · have hF := (if_neg c2).symm.trans hF
      refine lv_iconst (v := 2) hx hb dX1_skipByKey_36 (by decide) ?_
      have hF : (_, _) = F := hF
      exact g_iret hx hb hr hlocks hP hS dX1_skipByKey_37 (g_p1 hF) (g_p2 hF)
    · have hF := (if_pos c2).symm.trans hF
      refine lv_aload_n hx hb dX1_skipByKey_20 rfl (lv_at hl 0 rfl) ?_
      refine lv_iload_n hx hb dX1_skipByKey_21 rfl (lv_at hl 2 rfl) ?_
      refine lv_if_ne (tgt := 29) hx hb dX1_skipByKey_22 (by decide) (fun c3 => ?_) (fun c3 => ?_)
      · have hF := (if_neg c3).symm.trans hF
        refine lv_iconst (v := 0) hx hb dX1_skipByKey_29 (by decide) ?_
        refine g_Vi hx hb hml hown hg (c_X1_skipIf l dC dI cI cZ x hi _ _) cs_X1_63 rfl rfl ⟨Nat.le_of_ble_eq_true rfl, Nat.le_of_ble_eq_true rfl⟩ hK hP hS (q0 := 10) rfl rfl rfl hl.1 rfl (Nat.le_of_ble_eq_true rfl) dX1_skipByKey_30 ⟨Nat.zero_le _, Nat.zero_le _⟩ (fun H locs hP hS => ?_)
        refine lv_goto (tgt := 37) hx hb dX1_skipByKey_33 (by decide) ?_
        have hF : (_, _) = F := hF
        exact g_iret hx hb hr hlocks hP hS dX1_skipByKey_37 (g_p1 hF) (g_p2 hF)
      · have hF := (if_pos c3).symm.trans hF
        refine lv_iconst (v := 1) hx hb dX1_skipByKey_25 (by decide) ?_
        refine lv_goto (tgt := 30) hx hb dX1_skipByKey_26 (by decide) ?_
        refine g_Vi hx hb hml hown hg (c_X1_skipIf l dC dI cI cZ x hi _ _) cs_X1_63 rfl rfl ⟨Nat.le_of_ble_eq_true rfl, Nat.le_of_ble_eq_true rfl⟩ hK hP hS (q0 := 10) rfl rfl rfl hl.1 rfl (Nat.le_of_ble_eq_true rfl) dX1_skipByKey_30 ⟨Nat.zero_le _, Nat.zero_le _⟩ (fun H locs hP hS => ?_)
        refine lv_goto (tgt := 37) hx hb dX1_skipByKey_33 (by decide) ?_
        have hF : (_, _) = F := hF
        exact g_iret hx hb hr hlocks hP hS dX1_skipByKey_37 (g_p1 hF) (g_p2 hF)
  · have hF := (if_pos c1).symm.trans hF
    refine lv_aload_n hx hb dX1_skipByKey_7 rfl (lv_at hl 0 rfl) ?_
    refine lv_iload_n hx hb dX1_skipByKey_8 rfl (lv_at hl 2 rfl) ?_
    refine g_Vi hx hb hml hown hg (c_X1_skipIf l dC dI cI cZ x hi _ _) cs_X1_63 rfl rfl ⟨Nat.le_of_ble_eq_true rfl, Nat.le_of_ble_eq_true rfl⟩ hK hP hS (q0 := 10) rfl rfl rfl hl.1 rfl (Nat.le_of_ble_eq_true rfl) dX1_skipByKey_9 ⟨Nat.zero_le _, Nat.zero_le _⟩ (fun H locs hP hS => ?_)
    have hF : (_, _) = F := hF
    exact g_iret hx hb hr hlocks hP hS dX1_skipByKey_12 (g_p1 hF) (g_p2 hF)
def f_X1_takeKey (u : BS) (p0 : Int32) : Int32 × BS :=
  let t1 : Int32 := (f_X0_least u)
  if 0 ≤ t1 then
    let r2 : BS := f_X1_putVariable u p0 t1
    (0, r2)
  else
    (1, u)
def ok_X1_takeKey (u : BS) (p0 : Int32) : Prop :=
  ok_X0_least u ∧
  let t1 : Int32 := (f_X0_least u)
  if 0 ≤ t1 then
    let r2 : BS := f_X1_putVariable u p0 t1
    True
  else
    True
set_option maxHeartbeats 4000000 in
set_option maxRecDepth 100000 in
theorem c_X1_takeKey (l : Launch) (dC : Nat → ClassId) (dI : Nat → Nat → Nat) (cI cZ : ClassId) (x : Nat → Nat) (hi : g_inj 13 x) (u : BS) (p0 : Int32) (hok : ok_X1_takeKey u p0) : g_Mi l yX1_takeKey (.code yX1_takeKey cX1_takeKey 3 (some .int)) { frames := 1, cells := 0, slots := 0, locals := 22 } (dC, dI) vwCl (tysW cI cZ) (wB x cI cZ) (g_bA 13 x) u [.ref (x 10), .int p0] (f_X1_takeKey u p0).1 (f_X1_takeKey u p0).2 := by
  refine Met.ofW (cc := cX1_takeKey) (maxL := 3) (ret := (some .int)) (by decide) rfl ?_
  intro p e s m args below meth c s₁ B hml hv
  obtain ⟨rfl, hP, hK⟩ := hv
  have hx := B.exec
  have hb := B.bytes
  have hr := B.returns
  have hts := atoms_spec (ws := .code yX1_takeKey cX1_takeKey 3 (some .int) :: gtbl) B.pre
  have hg : ∀ w ∈ gtbl, w.before _ s = true := fun w h => hts w (List.mem_cons_of_mem _ h)
  have hown : s.vm.findClass RX1 = some m.cls := findClass_of_methodNamed B.named
  have hlocks := B.notSynchronized
  have hS : va_S (g_bA 13 x) s.heap s.heap [] := va_S.rf
  have hl := lv_entry ([.ref (x 10), .int p0]) (n := 3) (Nat.le_of_ble_eq_true rfl)
  rw [lg_entry_eq]
  generalize (lg_sl ([.ref (x 10), .int p0]) ++ List.replicate (3 - (lg_sl ([.ref (x 10), .int p0])).length) Slot.unset).toArray = ls at hl ⊢
  have hl : lv_has ls 3 [(0, .ref (x 10)), (1, .int p0)] := hl
  obtain ⟨F, hF⟩ : ∃ F, f_X1_takeKey u p0 = F := ⟨_, rfl⟩
  rw [hF]
  refine lv_aload_n hx hb dX1_takeKey_0 rfl (lv_at hl 0 rfl) ?_
  refine ge_X1_keys hx hb hg hown kf_X1_24 hK hP dX1_takeKey_1 ?_
  obtain ⟨c1, hok⟩ := hok
  refine g_Vi hx hb hml hown hg (c_X0_least l dC dI cI cZ x hi _ c1) cs_X1_130 rfl rfl ⟨Nat.le_of_ble_eq_true rfl, Nat.le_of_ble_eq_true rfl⟩ hK hP hS (q0 := 3) rfl rfl rfl hl.1 rfl (Nat.le_of_ble_eq_true rfl) dX1_takeKey_4 ⟨Nat.zero_le _, Nat.zero_le _⟩ (fun H locs hP hS => ?_)
  refine lv_istore_n hx hb dX1_takeKey_7 rfl hl (by decide) rfl (fun ls hl => ?_)
  have hl : lv_has ls 3 [(2, _), (0, _), (1, _)] := hl
  refine lv_iload_n hx hb dX1_takeKey_8 rfl (lv_at hl 0 rfl) ?_
  refine lv_if_ge (tgt := 14) hx hb dX1_takeKey_9 (by decide) (fun c2 => ?_) (fun c2 => ?_)
  · have hF := (if_pos c2).symm.trans hF
    have hok := Eq.mp (if_pos c2) hok
    refine lv_aload_n hx hb dX1_takeKey_14 rfl (lv_at hl 1 rfl) ?_
    refine lv_iload_n hx hb dX1_takeKey_15 rfl (lv_at hl 2 rfl) ?_
    refine lv_iload_n hx hb dX1_takeKey_16 rfl (lv_at hl 0 rfl) ?_
    refine g_Vv hx hb hml hown hg (c_X1_putVariable l dC dI cI cZ x hi _ _ _) cs_X1_71 rfl rfl ⟨Nat.le_of_ble_eq_true rfl, Nat.le_of_ble_eq_true rfl⟩ hK hP hS (q0 := 10) rfl rfl rfl hl.1 rfl (Nat.le_of_ble_eq_true rfl) dX1_takeKey_17 ⟨Nat.zero_le _, Nat.zero_le _⟩ (fun H locs hP hS => ?_)
    refine lv_iconst (v := 0) hx hb dX1_takeKey_20 (by decide) ?_
    have hF : (_, _) = F := hF
    exact g_iret hx hb hr hlocks hP hS dX1_takeKey_21 (g_p1 hF) (g_p2 hF)
  · have hF := (if_neg c2).symm.trans hF
    have hok := Eq.mp (if_neg c2) hok
    refine lv_iconst (v := 1) hx hb dX1_takeKey_12 (by decide) ?_
    have hF : (_, _) = F := hF
    exact g_iret hx hb hr hlocks hP hS dX1_takeKey_13 (g_p1 hF) (g_p2 hF)
def f_X1_executeSystem (u : BS) (p0 : Int32) (p1 : Int32) : Int32 × BS :=
  if p1 = 7 then
    let r1 : BS := f_X1_putVariable u p0 (f_X5_delay u)
    (0, r1)
  else
    if p1 = 10 then
      let r2 : Int32 × BS := f_X1_takeKey u p0
      (r2.1, r2.2)
    else
      if p1 = 21 then
        let r3 : BS := f_X5_setDelay u (f_X1_variable u p0)
        (0, r3)
      else
        if p1 = 24 then
          let r4 : BS := f_X5_setTone u (f_X1_variable u p0)
          (0, r4)
        else
          if p1 = 30 then
            let r5 : BS := f_X1_putIndex u ((bq_index u) + (f_X1_variable u p0))
            (0, r5)
          else
            if p1 = 41 then
              let r6 : BS := f_X1_putIndex u ((5 : Int32) * ((f_X1_variable u p0) &&& 15))
              (0, r6)
            else
              (2, u)
def ok_X1_executeSystem (u : BS) (p0 : Int32) (p1 : Int32) : Prop :=
  if p1 = 7 then
    let r1 : BS := f_X1_putVariable u p0 (f_X5_delay u)
    True
  else
    if p1 = 10 then
      ok_X1_takeKey u p0 ∧
      let r2 : Int32 × BS := f_X1_takeKey u p0
      True
    else
      if p1 = 21 then
        let r3 : BS := f_X5_setDelay u (f_X1_variable u p0)
        True
      else
        if p1 = 24 then
          let r4 : BS := f_X5_setTone u (f_X1_variable u p0)
          True
        else
          if p1 = 30 then
            let r5 : BS := f_X1_putIndex u ((bq_index u) + (f_X1_variable u p0))
            True
          else
            if p1 = 41 then
              let r6 : BS := f_X1_putIndex u ((5 : Int32) * ((f_X1_variable u p0) &&& 15))
              True
            else
              True
set_option maxHeartbeats 4000000 in
set_option maxRecDepth 100000 in
theorem c_X1_executeSystem (l : Launch) (dC : Nat → ClassId) (dI : Nat → Nat → Nat) (cI cZ : ClassId) (x : Nat → Nat) (hi : g_inj 13 x) (u : BS) (p0 : Int32) (p1 : Int32) (hok : ok_X1_executeSystem u p0 p1) : g_Mi l yX1_executeSystem (.code yX1_executeSystem cX1_executeSystem 3 (some .int)) { frames := 2, cells := 0, slots := 0, locals := 44 } (dC, dI) vwCl (tysW cI cZ) (wB x cI cZ) (g_bA 13 x) u [.ref (x 10), .int p0, .int p1] (f_X1_executeSystem u p0 p1).1 (f_X1_executeSystem u p0 p1).2 := by
  refine Met.ofW (cc := cX1_executeSystem) (maxL := 3) (ret := (some .int)) (by decide) rfl ?_
  intro p e s m args below meth c s₁ B hml hv
  obtain ⟨rfl, hP, hK⟩ := hv
  have hx := B.exec
  have hb := B.bytes
  have hr := B.returns
  have hts := atoms_spec (ws := .code yX1_executeSystem cX1_executeSystem 3 (some .int) :: gtbl) B.pre
  have hg : ∀ w ∈ gtbl, w.before _ s = true := fun w h => hts w (List.mem_cons_of_mem _ h)
  have hown : s.vm.findClass RX1 = some m.cls := findClass_of_methodNamed B.named
  have hlocks := B.notSynchronized
  have hS : va_S (g_bA 13 x) s.heap s.heap [] := va_S.rf
  have hl := lv_entry ([.ref (x 10), .int p0, .int p1]) (n := 3) (Nat.le_of_ble_eq_true rfl)
  rw [lg_entry_eq]
  generalize (lg_sl ([.ref (x 10), .int p0, .int p1]) ++ List.replicate (3 - (lg_sl ([.ref (x 10), .int p0, .int p1])).length) Slot.unset).toArray = ls at hl ⊢
  have hl : lv_has ls 3 [(0, .ref (x 10)), (1, .int p0), (2, .int p1)] := hl
  obtain ⟨F, hF⟩ : ∃ F, f_X1_executeSystem u p0 p1 = F := ⟨_, rfl⟩
  rw [hF]
  refine lv_iload_n hx hb dX1_executeSystem_0 rfl (lv_at hl 2 rfl) ?_
  refine sw_case (v := 7) (fun c1 => ?_) (fun c1 => ?_)
  · have hF := (if_pos c1).symm.trans hF
    have hok := Eq.mp (if_pos c1) hok
    refine sw_lin (off := 59) (tgt := 60) 7 hx hb dX1_executeSystem_1 c1 (by decide) (by decide) ?_
    refine lv_aload_n hx hb dX1_executeSystem_60 rfl (lv_at hl 0 rfl) ?_
    refine lv_iload_n hx hb dX1_executeSystem_61 rfl (lv_at hl 1 rfl) ?_
    refine lv_aload_n hx hb dX1_executeSystem_62 rfl (lv_at hl 0 rfl) ?_
    refine ge_X1_timers hx hb hg hown kf_X1_28 hK hP dX1_executeSystem_63 ?_
    refine g_Vi hx hb hml hown hg (c_X5_delay l dC dI cI cZ x hi _) cs_X1_116 rfl rfl ⟨Nat.le_of_ble_eq_true rfl, Nat.le_of_ble_eq_true rfl⟩ hK hP hS (q0 := 5) rfl rfl rfl hl.1 rfl (Nat.le_of_ble_eq_true rfl) dX1_executeSystem_66 ⟨Nat.zero_le _, Nat.zero_le _⟩ (fun H locs hP hS => ?_)
    refine g_Vv hx hb hml hown hg (c_X1_putVariable l dC dI cI cZ x hi _ _ _) cs_X1_71 rfl rfl ⟨Nat.le_of_ble_eq_true rfl, Nat.le_of_ble_eq_true rfl⟩ hK hP hS (q0 := 10) rfl rfl rfl hl.1 rfl (Nat.le_of_ble_eq_true rfl) dX1_executeSystem_69 ⟨Nat.zero_le _, Nat.zero_le _⟩ (fun H locs hP hS => ?_)
    refine lv_iconst (v := 0) hx hb dX1_executeSystem_72 (by decide) ?_
    have hF : (_, _) = F := hF
    exact g_iret hx hb hr hlocks hP hS dX1_executeSystem_73 (g_p1 hF) (g_p2 hF)
  · have hF := (if_neg c1).symm.trans hF
    have hok := Eq.mp (if_neg c1) hok
    refine sw_case (v := 10) (fun c2 => ?_) (fun c2 => ?_)
    · have hF := (if_pos c2).symm.trans hF
      have hok := Eq.mp (if_pos c2) hok
      refine sw_lin (off := 73) (tgt := 74) 10 hx hb dX1_executeSystem_1 c2 (by decide) (by decide) ?_
      refine lv_aload_n hx hb dX1_executeSystem_74 rfl (lv_at hl 0 rfl) ?_
      refine lv_iload_n hx hb dX1_executeSystem_75 rfl (lv_at hl 1 rfl) ?_
      obtain ⟨c3, hok⟩ := hok
      refine g_Vi hx hb hml hown hg (c_X1_takeKey l dC dI cI cZ x hi _ _ c3) cs_X1_121 rfl rfl ⟨Nat.le_of_ble_eq_true rfl, Nat.le_of_ble_eq_true rfl⟩ hK hP hS (q0 := 10) rfl rfl rfl hl.1 rfl (Nat.le_of_ble_eq_true rfl) dX1_executeSystem_76 ⟨Nat.zero_le _, Nat.zero_le _⟩ (fun H locs hP hS => ?_)
      have hF : (_, _) = F := hF
      exact g_iret hx hb hr hlocks hP hS dX1_executeSystem_79 (g_p1 hF) (g_p2 hF)
    · have hF := (if_neg c2).symm.trans hF
      have hok := Eq.mp (if_neg c2) hok
      refine sw_case (v := 21) (fun c4 => ?_) (fun c4 => ?_)
      · have hF := (if_pos c4).symm.trans hF
        have hok := Eq.mp (if_pos c4) hok
        refine sw_lin (off := 79) (tgt := 80) 21 hx hb dX1_executeSystem_1 c4 (by decide) (by decide) ?_
        refine lv_aload_n hx hb dX1_executeSystem_80 rfl (lv_at hl 0 rfl) ?_
        refine ge_X1_timers hx hb hg hown kf_X1_28 hK hP dX1_executeSystem_81 ?_
        refine lv_aload_n hx hb dX1_executeSystem_84 rfl (lv_at hl 0 rfl) ?_
        refine lv_iload_n hx hb dX1_executeSystem_85 rfl (lv_at hl 1 rfl) ?_
        refine g_Vi hx hb hml hown hg (c_X1_variable l dC dI cI cZ x hi _ _) cs_X1_41 rfl rfl ⟨Nat.le_of_ble_eq_true rfl, Nat.le_of_ble_eq_true rfl⟩ hK hP hS (q0 := 10) rfl rfl rfl hl.1 rfl (Nat.le_of_ble_eq_true rfl) dX1_executeSystem_86 ⟨Nat.zero_le _, Nat.zero_le _⟩ (fun H locs hP hS => ?_)
        refine g_Vv hx hb hml hown hg (c_X5_setDelay l dC dI cI cZ x hi _ _) cs_X1_124 rfl rfl ⟨Nat.le_of_ble_eq_true rfl, Nat.le_of_ble_eq_true rfl⟩ hK hP hS (q0 := 5) rfl rfl rfl hl.1 rfl (Nat.le_of_ble_eq_true rfl) dX1_executeSystem_89 ⟨Nat.zero_le _, Nat.zero_le _⟩ (fun H locs hP hS => ?_)
        refine lv_iconst (v := 0) hx hb dX1_executeSystem_92 (by decide) ?_
        have hF : (_, _) = F := hF
        exact g_iret hx hb hr hlocks hP hS dX1_executeSystem_93 (g_p1 hF) (g_p2 hF)
      · have hF := (if_neg c4).symm.trans hF
        have hok := Eq.mp (if_neg c4) hok
        refine sw_case (v := 24) (fun c5 => ?_) (fun c5 => ?_)
        · have hF := (if_pos c5).symm.trans hF
          have hok := Eq.mp (if_pos c5) hok
          refine sw_lin (off := 93) (tgt := 94) 24 hx hb dX1_executeSystem_1 c5 (by decide) (by decide) ?_
          refine lv_aload_n hx hb dX1_executeSystem_94 rfl (lv_at hl 0 rfl) ?_
          refine ge_X1_timers hx hb hg hown kf_X1_28 hK hP dX1_executeSystem_95 ?_
          refine lv_aload_n hx hb dX1_executeSystem_98 rfl (lv_at hl 0 rfl) ?_
          refine lv_iload_n hx hb dX1_executeSystem_99 rfl (lv_at hl 1 rfl) ?_
          refine g_Vi hx hb hml hown hg (c_X1_variable l dC dI cI cZ x hi _ _) cs_X1_41 rfl rfl ⟨Nat.le_of_ble_eq_true rfl, Nat.le_of_ble_eq_true rfl⟩ hK hP hS (q0 := 10) rfl rfl rfl hl.1 rfl (Nat.le_of_ble_eq_true rfl) dX1_executeSystem_100 ⟨Nat.zero_le _, Nat.zero_le _⟩ (fun H locs hP hS => ?_)
          refine g_Vv hx hb hml hown hg (c_X5_setTone l dC dI cI cZ x hi _ _) cs_X1_127 rfl rfl ⟨Nat.le_of_ble_eq_true rfl, Nat.le_of_ble_eq_true rfl⟩ hK hP hS (q0 := 5) rfl rfl rfl hl.1 rfl (Nat.le_of_ble_eq_true rfl) dX1_executeSystem_103 ⟨Nat.zero_le _, Nat.zero_le _⟩ (fun H locs hP hS => ?_)
          refine lv_iconst (v := 0) hx hb dX1_executeSystem_106 (by decide) ?_
          have hF : (_, _) = F := hF
          exact g_iret hx hb hr hlocks hP hS dX1_executeSystem_107 (g_p1 hF) (g_p2 hF)
        · have hF := (if_neg c5).symm.trans hF
          have hok := Eq.mp (if_neg c5) hok
          refine sw_case (v := 30) (fun c6 => ?_) (fun c6 => ?_)
          · have hF := (if_pos c6).symm.trans hF
            have hok := Eq.mp (if_pos c6) hok
            refine sw_lin (off := 107) (tgt := 108) 30 hx hb dX1_executeSystem_1 c6 (by decide) (by decide) ?_
            refine lv_aload_n hx hb dX1_executeSystem_108 rfl (lv_at hl 0 rfl) ?_
            refine lv_aload_n hx hb dX1_executeSystem_109 rfl (lv_at hl 0 rfl) ?_
            refine ge_X1_index hx hb hg hown kf_X1_35 hK hP dX1_executeSystem_110 ?_
            refine lv_aload_n hx hb dX1_executeSystem_113 rfl (lv_at hl 0 rfl) ?_
            refine lv_iload_n hx hb dX1_executeSystem_114 rfl (lv_at hl 1 rfl) ?_
            refine g_Vi hx hb hml hown hg (c_X1_variable l dC dI cI cZ x hi _ _) cs_X1_41 rfl rfl ⟨Nat.le_of_ble_eq_true rfl, Nat.le_of_ble_eq_true rfl⟩ hK hP hS (q0 := 10) rfl rfl rfl hl.1 rfl (Nat.le_of_ble_eq_true rfl) dX1_executeSystem_115 ⟨Nat.zero_le _, Nat.zero_le _⟩ (fun H locs hP hS => ?_)
            refine lv_iadd hx hb dX1_executeSystem_118 ?_
            refine g_Vv hx hb hml hown hg (c_X1_putIndex l dC dI cI cZ x hi _ _) cs_X1_79 rfl rfl ⟨Nat.le_of_ble_eq_true rfl, Nat.le_of_ble_eq_true rfl⟩ hK hP hS (q0 := 10) rfl rfl rfl hl.1 rfl (Nat.le_of_ble_eq_true rfl) dX1_executeSystem_119 ⟨Nat.zero_le _, Nat.zero_le _⟩ (fun H locs hP hS => ?_)
            refine lv_iconst (v := 0) hx hb dX1_executeSystem_122 (by decide) ?_
            have hF : (_, _) = F := hF
            exact g_iret hx hb hr hlocks hP hS dX1_executeSystem_123 (g_p1 hF) (g_p2 hF)
          · have hF := (if_neg c6).symm.trans hF
            have hok := Eq.mp (if_neg c6) hok
            refine sw_case (v := 41) (fun c7 => ?_) (fun c7 => ?_)
            · have hF := (if_pos c7).symm.trans hF
              have hok := Eq.mp (if_pos c7) hok
              refine sw_lin (off := 123) (tgt := 124) 41 hx hb dX1_executeSystem_1 c7 (by decide) (by decide) ?_
              refine lv_aload_n hx hb dX1_executeSystem_124 rfl (lv_at hl 0 rfl) ?_
              refine lv_iconst (v := 5) hx hb dX1_executeSystem_125 (by decide) ?_
              refine lv_aload_n hx hb dX1_executeSystem_126 rfl (lv_at hl 0 rfl) ?_
              refine lv_iload_n hx hb dX1_executeSystem_127 rfl (lv_at hl 1 rfl) ?_
              refine g_Vi hx hb hml hown hg (c_X1_variable l dC dI cI cZ x hi _ _) cs_X1_41 rfl rfl ⟨Nat.le_of_ble_eq_true rfl, Nat.le_of_ble_eq_true rfl⟩ hK hP hS (q0 := 10) rfl rfl rfl hl.1 rfl (Nat.le_of_ble_eq_true rfl) dX1_executeSystem_128 ⟨Nat.zero_le _, Nat.zero_le _⟩ (fun H locs hP hS => ?_)
              refine lv_bipush (v := 15) hx hb dX1_executeSystem_131 (by decide) ?_
              refine lv_iand hx hb dX1_executeSystem_133 ?_
              refine lv_imul hx hb dX1_executeSystem_134 ?_
              refine g_Vv hx hb hml hown hg (c_X1_putIndex l dC dI cI cZ x hi _ _) cs_X1_79 rfl rfl ⟨Nat.le_of_ble_eq_true rfl, Nat.le_of_ble_eq_true rfl⟩ hK hP hS (q0 := 10) rfl rfl rfl hl.1 rfl (Nat.le_of_ble_eq_true rfl) dX1_executeSystem_135 ⟨Nat.zero_le _, Nat.zero_le _⟩ (fun H locs hP hS => ?_)
              refine lv_iconst (v := 0) hx hb dX1_executeSystem_138 (by decide) ?_
              have hF : (_, _) = F := hF
              exact g_iret hx hb hr hlocks hP hS dX1_executeSystem_139 (g_p1 hF) (g_p2 hF)
            · have hF := (if_neg c7).symm.trans hF
              have hok := Eq.mp (if_neg c7) hok
              refine sw_ldf (tgt := 140) [7, 10, 21, 24, 30, 41] hx hb dX1_executeSystem_1 (List.forall_mem_cons.mpr ⟨c1, List.forall_mem_cons.mpr ⟨c2, List.forall_mem_cons.mpr ⟨c4, List.forall_mem_cons.mpr ⟨c5, List.forall_mem_cons.mpr ⟨c6, List.forall_mem_cons.mpr ⟨c7, fun _ h => absurd h List.not_mem_nil⟩⟩⟩⟩⟩⟩) (by decide) (by decide) ?_
              refine lv_iconst (v := 2) hx hb dX1_executeSystem_140 (by decide) ?_
              have hF : (_, _) = F := hF
              exact g_iret hx hb hr hlocks hP hS dX1_executeSystem_141 (g_p1 hF) (g_p2 hF)
def f_X1_putDigits (u : BS) (p0 : Int32) : BS :=
  let r1 : BS := f_X2_write u (bq_index u) (p0 / 100)
  let r2 : BS := f_X2_write r1 ((bq_index r1) + 1) ((p0 / 10) - (p0 / 10) / 10 * 10)
  let r3 : BS := f_X2_write r2 ((bq_index r2) + 2) (p0 - p0 / 10 * 10)
  r3
set_option maxHeartbeats 4000000 in
set_option maxRecDepth 100000 in
theorem c_X1_putDigits (l : Launch) (dC : Nat → ClassId) (dI : Nat → Nat → Nat) (cI cZ : ClassId) (x : Nat → Nat) (hi : g_inj 13 x) (u : BS) (p0 : Int32) : g_Mv l yX1_putDigits (.code yX1_putDigits cX1_putDigits 2 none) { frames := 1, cells := 0, slots := 0, locals := 22 } (dC, dI) vwCl (tysW cI cZ) (wB x cI cZ) (g_bA 13 x) u [.ref (x 10), .int p0] (f_X1_putDigits u p0) := by
  refine Met.ofW (cc := cX1_putDigits) (maxL := 2) (ret := none) (by decide) rfl ?_
  intro p e s m args below meth c s₁ B hml hv
  obtain ⟨rfl, hP, hK⟩ := hv
  have hx := B.exec
  have hb := B.bytes
  have hr := B.returns
  have hts := atoms_spec (ws := .code yX1_putDigits cX1_putDigits 2 none :: gtbl) B.pre
  have hg : ∀ w ∈ gtbl, w.before _ s = true := fun w h => hts w (List.mem_cons_of_mem _ h)
  have hown : s.vm.findClass RX1 = some m.cls := findClass_of_methodNamed B.named
  have hlocks := B.notSynchronized
  have hS : va_S (g_bA 13 x) s.heap s.heap [] := va_S.rf
  have hl := lv_entry ([.ref (x 10), .int p0]) (n := 2) (Nat.le_of_ble_eq_true rfl)
  rw [lg_entry_eq]
  generalize (lg_sl ([.ref (x 10), .int p0]) ++ List.replicate (2 - (lg_sl ([.ref (x 10), .int p0])).length) Slot.unset).toArray = ls at hl ⊢
  have hl : lv_has ls 2 [(0, .ref (x 10)), (1, .int p0)] := hl
  obtain ⟨F, hF⟩ : ∃ F, f_X1_putDigits u p0 = F := ⟨_, rfl⟩
  rw [hF]
  refine lv_aload_n hx hb dX1_putDigits_0 rfl (lv_at hl 0 rfl) ?_
  refine ge_X1_memory hx hb hg hown kf_X1_20 hK hP dX1_putDigits_1 ?_
  refine lv_aload_n hx hb dX1_putDigits_4 rfl (lv_at hl 0 rfl) ?_
  refine ge_X1_index hx hb hg hown kf_X1_35 hK hP dX1_putDigits_5 ?_
  refine lv_iload_n hx hb dX1_putDigits_8 rfl (lv_at hl 1 rfl) ?_
  refine lv_bipush (v := 100) hx hb dX1_putDigits_9 (by decide) ?_
  refine lv_idiv hx hb dX1_putDigits_11 (by decide) ?_
  refine g_Vv hx hb hml hown hg (c_X2_write l dC dI cI cZ x hi _ _ _) cs_X1_109 rfl rfl ⟨Nat.le_of_ble_eq_true rfl, Nat.le_of_ble_eq_true rfl⟩ hK hP hS (q0 := 1) rfl rfl rfl hl.1 rfl (Nat.le_of_ble_eq_true rfl) dX1_putDigits_12 ⟨Nat.zero_le _, Nat.zero_le _⟩ (fun H locs hP hS => ?_)
  refine lv_aload_n hx hb dX1_putDigits_15 rfl (lv_at hl 0 rfl) ?_
  refine ge_X1_memory hx hb hg hown kf_X1_20 hK hP dX1_putDigits_16 ?_
  refine lv_aload_n hx hb dX1_putDigits_19 rfl (lv_at hl 0 rfl) ?_
  refine ge_X1_index hx hb hg hown kf_X1_35 hK hP dX1_putDigits_20 ?_
  refine lv_iconst (v := 1) hx hb dX1_putDigits_23 (by decide) ?_
  refine lv_iadd hx hb dX1_putDigits_24 ?_
  refine lv_iload_n hx hb dX1_putDigits_25 rfl (lv_at hl 1 rfl) ?_
  refine lv_bipush (v := 10) hx hb dX1_putDigits_26 (by decide) ?_
  refine lv_idiv hx hb dX1_putDigits_28 (by decide) ?_
  refine lv_bipush (v := 10) hx hb dX1_putDigits_29 (by decide) ?_
  refine lv_irem hx hb dX1_putDigits_31 (by decide) ?_
  refine g_Vv hx hb hml hown hg (c_X2_write l dC dI cI cZ x hi _ _ _) cs_X1_109 rfl rfl ⟨Nat.le_of_ble_eq_true rfl, Nat.le_of_ble_eq_true rfl⟩ hK hP hS (q0 := 1) rfl rfl rfl hl.1 rfl (Nat.le_of_ble_eq_true rfl) dX1_putDigits_32 ⟨Nat.zero_le _, Nat.zero_le _⟩ (fun H locs hP hS => ?_)
  refine lv_aload_n hx hb dX1_putDigits_35 rfl (lv_at hl 0 rfl) ?_
  refine ge_X1_memory hx hb hg hown kf_X1_20 hK hP dX1_putDigits_36 ?_
  refine lv_aload_n hx hb dX1_putDigits_39 rfl (lv_at hl 0 rfl) ?_
  refine ge_X1_index hx hb hg hown kf_X1_35 hK hP dX1_putDigits_40 ?_
  refine lv_iconst (v := 2) hx hb dX1_putDigits_43 (by decide) ?_
  refine lv_iadd hx hb dX1_putDigits_44 ?_
  refine lv_iload_n hx hb dX1_putDigits_45 rfl (lv_at hl 1 rfl) ?_
  refine lv_bipush (v := 10) hx hb dX1_putDigits_46 (by decide) ?_
  refine lv_irem hx hb dX1_putDigits_48 (by decide) ?_
  refine g_Vv hx hb hml hown hg (c_X2_write l dC dI cI cZ x hi _ _ _) cs_X1_109 rfl rfl ⟨Nat.le_of_ble_eq_true rfl, Nat.le_of_ble_eq_true rfl⟩ hK hP hS (q0 := 1) rfl rfl rfl hl.1 rfl (Nat.le_of_ble_eq_true rfl) dX1_putDigits_49 ⟨Nat.zero_le _, Nat.zero_le _⟩ (fun H locs hP hS => ?_)
  exact g_vret hx hb hr hlocks hP hS dX1_putDigits_52 hF
def f_X1_saveVariables_L : Nat → BS → Int32 → Int32 → BS
  | 0, u, _, _ => u
  | n + 1, u, a1, a2 =>
    if a1 < a2 then
      let r1 : BS := f_X1_putIndex u (((bq_index u) + a1) + 1)
      r1
    else
      let r2 : BS := f_X2_write u ((bq_index u) + a2) (f_X1_variable u a2)
      let t3 : Int32 := a2 + Int32.ofInt 1
      f_X1_saveVariables_L n r2 a1 t3
def ok_X1_saveVariables_L : Nat → BS → Int32 → Int32 → Prop
  | 0, _, _, _ => False
  | n + 1, u, a1, a2 =>
    if a1 < a2 then
      let r1 : BS := f_X1_putIndex u (((bq_index u) + a1) + 1)
      True
    else
      let r2 : BS := f_X2_write u ((bq_index u) + a2) (f_X1_variable u a2)
      let t3 : Int32 := a2 + Int32.ofInt 1
      ok_X1_saveVariables_L n r2 a1 t3
def f_X1_saveVariables (u : BS) (p0 : Int32) : BS :=
  f_X1_saveVariables_L 17 u p0 0
def ok_X1_saveVariables (u : BS) (p0 : Int32) : Prop :=
  ok_X1_saveVariables_L 17 u p0 0
set_option maxHeartbeats 4000000 in
set_option maxRecDepth 100000 in
theorem c_X1_saveVariables (l : Launch) (dC : Nat → ClassId) (dI : Nat → Nat → Nat) (cI cZ : ClassId) (x : Nat → Nat) (hi : g_inj 13 x) (u : BS) (p0 : Int32) (hok : ok_X1_saveVariables u p0) : g_Mv l yX1_saveVariables (.code yX1_saveVariables cX1_saveVariables 3 none) { frames := 1, cells := 0, slots := 0, locals := 22 } (dC, dI) vwCl (tysW cI cZ) (wB x cI cZ) (g_bA 13 x) u [.ref (x 10), .int p0] (f_X1_saveVariables u p0) := by
  refine Met.ofW (cc := cX1_saveVariables) (maxL := 3) (ret := none) (by decide) rfl ?_
  intro p e s m args below meth c s₁ B hml hv
  obtain ⟨rfl, hP, hK⟩ := hv
  have hx := B.exec
  have hb := B.bytes
  have hr := B.returns
  have hts := atoms_spec (ws := .code yX1_saveVariables cX1_saveVariables 3 none :: gtbl) B.pre
  have hg : ∀ w ∈ gtbl, w.before _ s = true := fun w h => hts w (List.mem_cons_of_mem _ h)
  have hown : s.vm.findClass RX1 = some m.cls := findClass_of_methodNamed B.named
  have hlocks := B.notSynchronized
  have hS : va_S (g_bA 13 x) s.heap s.heap [] := va_S.rf
  have hl := lv_entry ([.ref (x 10), .int p0]) (n := 3) (Nat.le_of_ble_eq_true rfl)
  rw [lg_entry_eq]
  generalize (lg_sl ([.ref (x 10), .int p0]) ++ List.replicate (3 - (lg_sl ([.ref (x 10), .int p0])).length) Slot.unset).toArray = ls at hl ⊢
  have hl : lv_has ls 3 [(0, .ref (x 10)), (1, .int p0)] := hl
  obtain ⟨F, hF⟩ : ∃ F, f_X1_saveVariables u p0 = F := ⟨_, rfl⟩
  rw [hF]
  have loop : ∀ (n : Nat), (∀ (u : BS) (a1 : Int32) (a2 : Int32) (H : Heap) (locs : List Loc) (ls : Array Slot), f_X1_saveVariables_L n u a1 a2 = F → ok_X1_saveVariables_L n u a1 a2 → va_P (dC, dI) vwCl (wB x cI cZ u) H → va_S (g_bA 13 x) s.heap H locs → lv_has ls 3 [(0, .ref (x 10)), (1, .int a1), (2, .int a2)] → W p l e (headSpec (.code yX1_saveVariables cX1_saveVariables 3 none :: gtbl) { frames := 1, cells := 0, slots := 0, locals := 22 }).room s m ([.ref (x 10), .int p0] : List Value).toArray below meth c H locs 0 0 (MQ below (va_Qv (fun v1 => v1 = F) (fun v1 t => va_P (dC, dI) vwCl (wB x cI cZ v1) t.heap) (g_bA 13 x)) ([.ref (x 10), .int p0] : List Value).toArray s 0 0 (g_bA 13 x)) (F0 m 2 ls [])) := by
    intro n
    induction n with
    | zero => intro u a1 a2 H locs ls hF hok; exact hok.elim
    | succ n ih =>
      intro u a1 a2 H locs ls hF hok hP hS hl
      refine lv_iload_n hx hb dX1_saveVariables_2 rfl (lv_at hl 2 rfl) ?_
      refine lv_iload_n hx hb dX1_saveVariables_3 rfl (lv_at hl 1 rfl) ?_
      refine lv_icmp_gt (tgt := 31) hx hb dX1_saveVariables_4 (by decide) (fun c1 => ?_) (fun c1 => ?_)
      · have hF := (if_pos c1).symm.trans hF
        have hok := Eq.mp (if_pos c1) hok
        refine lv_aload_n hx hb dX1_saveVariables_31 rfl (lv_at hl 0 rfl) ?_
        refine lv_aload_n hx hb dX1_saveVariables_32 rfl (lv_at hl 0 rfl) ?_
        refine ge_X1_index hx hb hg hown kf_X1_35 hK hP dX1_saveVariables_33 ?_
        refine lv_iload_n hx hb dX1_saveVariables_36 rfl (lv_at hl 1 rfl) ?_
        refine lv_iadd hx hb dX1_saveVariables_37 ?_
        refine lv_iconst (v := 1) hx hb dX1_saveVariables_38 (by decide) ?_
        refine lv_iadd hx hb dX1_saveVariables_39 ?_
        refine g_Vv hx hb hml hown hg (c_X1_putIndex l dC dI cI cZ x hi _ _) cs_X1_79 rfl rfl ⟨Nat.le_of_ble_eq_true rfl, Nat.le_of_ble_eq_true rfl⟩ hK hP hS (q0 := 10) rfl rfl rfl hl.1 rfl (Nat.le_of_ble_eq_true rfl) dX1_saveVariables_40 ⟨Nat.zero_le _, Nat.zero_le _⟩ (fun H locs hP hS => ?_)
        exact g_vret hx hb hr hlocks hP hS dX1_saveVariables_43 hF
      · have hF := (if_neg c1).symm.trans hF
        have hok := Eq.mp (if_neg c1) hok
        refine lv_aload_n hx hb dX1_saveVariables_7 rfl (lv_at hl 0 rfl) ?_
        refine ge_X1_memory hx hb hg hown kf_X1_20 hK hP dX1_saveVariables_8 ?_
        refine lv_aload_n hx hb dX1_saveVariables_11 rfl (lv_at hl 0 rfl) ?_
        refine ge_X1_index hx hb hg hown kf_X1_35 hK hP dX1_saveVariables_12 ?_
        refine lv_iload_n hx hb dX1_saveVariables_15 rfl (lv_at hl 2 rfl) ?_
        refine lv_iadd hx hb dX1_saveVariables_16 ?_
        refine lv_aload_n hx hb dX1_saveVariables_17 rfl (lv_at hl 0 rfl) ?_
        refine lv_iload_n hx hb dX1_saveVariables_18 rfl (lv_at hl 2 rfl) ?_
        refine g_Vi hx hb hml hown hg (c_X1_variable l dC dI cI cZ x hi _ _) cs_X1_41 rfl rfl ⟨Nat.le_of_ble_eq_true rfl, Nat.le_of_ble_eq_true rfl⟩ hK hP hS (q0 := 10) rfl rfl rfl hl.1 rfl (Nat.le_of_ble_eq_true rfl) dX1_saveVariables_19 ⟨Nat.zero_le _, Nat.zero_le _⟩ (fun H locs hP hS => ?_)
        refine g_Vv hx hb hml hown hg (c_X2_write l dC dI cI cZ x hi _ _ _) cs_X1_109 rfl rfl ⟨Nat.le_of_ble_eq_true rfl, Nat.le_of_ble_eq_true rfl⟩ hK hP hS (q0 := 1) rfl rfl rfl hl.1 rfl (Nat.le_of_ble_eq_true rfl) dX1_saveVariables_22 ⟨Nat.zero_le _, Nat.zero_le _⟩ (fun H locs hP hS => ?_)
        refine lv_iinc hx hb dX1_saveVariables_25 hl (k := 2) rfl rfl (by decide) rfl (fun ls hl => ?_)
        have hl : lv_has ls 3 [(2, _), (0, _), (1, _)] := hl
        refine lv_goto (tgt := 2) hx hb dX1_saveVariables_28 (by decide) ?_
        exact ih _ _ _ _ _ _ hF hok hP hS (lv_sub hl [1, 2, 0] rfl)
  refine lv_iconst (v := 0) hx hb dX1_saveVariables_0 (by decide) ?_
  refine lv_istore_n hx hb dX1_saveVariables_1 rfl hl (by decide) rfl (fun ls hl => ?_)
  have hl : lv_has ls 3 [(2, _), (0, _), (1, _)] := hl
  exact (loop 17) _ _ _ _ _ _ hF hok hP hS (lv_sub hl [1, 2, 0] rfl)
def f_X1_loadVariables_L : Nat → BS → Int32 → Int32 → BS
  | 0, u, _, _ => u
  | n + 1, u, a1, a2 =>
    if a1 < a2 then
      let r1 : BS := f_X1_putIndex u (((bq_index u) + a1) + 1)
      r1
    else
      let r2 : BS := f_X1_putVariable u a2 (f_X2_read u ((bq_index u) + a2))
      let t3 : Int32 := a2 + Int32.ofInt 1
      f_X1_loadVariables_L n r2 a1 t3
def ok_X1_loadVariables_L : Nat → BS → Int32 → Int32 → Prop
  | 0, _, _, _ => False
  | n + 1, u, a1, a2 =>
    if a1 < a2 then
      let r1 : BS := f_X1_putIndex u (((bq_index u) + a1) + 1)
      True
    else
      let r2 : BS := f_X1_putVariable u a2 (f_X2_read u ((bq_index u) + a2))
      let t3 : Int32 := a2 + Int32.ofInt 1
      ok_X1_loadVariables_L n r2 a1 t3
def f_X1_loadVariables (u : BS) (p0 : Int32) : BS :=
  f_X1_loadVariables_L 17 u p0 0
def ok_X1_loadVariables (u : BS) (p0 : Int32) : Prop :=
  ok_X1_loadVariables_L 17 u p0 0
set_option maxHeartbeats 4000000 in
set_option maxRecDepth 100000 in
theorem c_X1_loadVariables (l : Launch) (dC : Nat → ClassId) (dI : Nat → Nat → Nat) (cI cZ : ClassId) (x : Nat → Nat) (hi : g_inj 13 x) (u : BS) (p0 : Int32) (hok : ok_X1_loadVariables u p0) : g_Mv l yX1_loadVariables (.code yX1_loadVariables cX1_loadVariables 3 none) { frames := 1, cells := 0, slots := 0, locals := 22 } (dC, dI) vwCl (tysW cI cZ) (wB x cI cZ) (g_bA 13 x) u [.ref (x 10), .int p0] (f_X1_loadVariables u p0) := by
  refine Met.ofW (cc := cX1_loadVariables) (maxL := 3) (ret := none) (by decide) rfl ?_
  intro p e s m args below meth c s₁ B hml hv
  obtain ⟨rfl, hP, hK⟩ := hv
  have hx := B.exec
  have hb := B.bytes
  have hr := B.returns
  have hts := atoms_spec (ws := .code yX1_loadVariables cX1_loadVariables 3 none :: gtbl) B.pre
  have hg : ∀ w ∈ gtbl, w.before _ s = true := fun w h => hts w (List.mem_cons_of_mem _ h)
  have hown : s.vm.findClass RX1 = some m.cls := findClass_of_methodNamed B.named
  have hlocks := B.notSynchronized
  have hS : va_S (g_bA 13 x) s.heap s.heap [] := va_S.rf
  have hl := lv_entry ([.ref (x 10), .int p0]) (n := 3) (Nat.le_of_ble_eq_true rfl)
  rw [lg_entry_eq]
  generalize (lg_sl ([.ref (x 10), .int p0]) ++ List.replicate (3 - (lg_sl ([.ref (x 10), .int p0])).length) Slot.unset).toArray = ls at hl ⊢
  have hl : lv_has ls 3 [(0, .ref (x 10)), (1, .int p0)] := hl
  obtain ⟨F, hF⟩ : ∃ F, f_X1_loadVariables u p0 = F := ⟨_, rfl⟩
  rw [hF]
  have loop : ∀ (n : Nat), (∀ (u : BS) (a1 : Int32) (a2 : Int32) (H : Heap) (locs : List Loc) (ls : Array Slot), f_X1_loadVariables_L n u a1 a2 = F → ok_X1_loadVariables_L n u a1 a2 → va_P (dC, dI) vwCl (wB x cI cZ u) H → va_S (g_bA 13 x) s.heap H locs → lv_has ls 3 [(0, .ref (x 10)), (1, .int a1), (2, .int a2)] → W p l e (headSpec (.code yX1_loadVariables cX1_loadVariables 3 none :: gtbl) { frames := 1, cells := 0, slots := 0, locals := 22 }).room s m ([.ref (x 10), .int p0] : List Value).toArray below meth c H locs 0 0 (MQ below (va_Qv (fun v1 => v1 = F) (fun v1 t => va_P (dC, dI) vwCl (wB x cI cZ v1) t.heap) (g_bA 13 x)) ([.ref (x 10), .int p0] : List Value).toArray s 0 0 (g_bA 13 x)) (F0 m 2 ls [])) := by
    intro n
    induction n with
    | zero => intro u a1 a2 H locs ls hF hok; exact hok.elim
    | succ n ih =>
      intro u a1 a2 H locs ls hF hok hP hS hl
      refine lv_iload_n hx hb dX1_loadVariables_2 rfl (lv_at hl 2 rfl) ?_
      refine lv_iload_n hx hb dX1_loadVariables_3 rfl (lv_at hl 1 rfl) ?_
      refine lv_icmp_gt (tgt := 31) hx hb dX1_loadVariables_4 (by decide) (fun c1 => ?_) (fun c1 => ?_)
      · have hF := (if_pos c1).symm.trans hF
        have hok := Eq.mp (if_pos c1) hok
        refine lv_aload_n hx hb dX1_loadVariables_31 rfl (lv_at hl 0 rfl) ?_
        refine lv_aload_n hx hb dX1_loadVariables_32 rfl (lv_at hl 0 rfl) ?_
        refine ge_X1_index hx hb hg hown kf_X1_35 hK hP dX1_loadVariables_33 ?_
        refine lv_iload_n hx hb dX1_loadVariables_36 rfl (lv_at hl 1 rfl) ?_
        refine lv_iadd hx hb dX1_loadVariables_37 ?_
        refine lv_iconst (v := 1) hx hb dX1_loadVariables_38 (by decide) ?_
        refine lv_iadd hx hb dX1_loadVariables_39 ?_
        refine g_Vv hx hb hml hown hg (c_X1_putIndex l dC dI cI cZ x hi _ _) cs_X1_79 rfl rfl ⟨Nat.le_of_ble_eq_true rfl, Nat.le_of_ble_eq_true rfl⟩ hK hP hS (q0 := 10) rfl rfl rfl hl.1 rfl (Nat.le_of_ble_eq_true rfl) dX1_loadVariables_40 ⟨Nat.zero_le _, Nat.zero_le _⟩ (fun H locs hP hS => ?_)
        exact g_vret hx hb hr hlocks hP hS dX1_loadVariables_43 hF
      · have hF := (if_neg c1).symm.trans hF
        have hok := Eq.mp (if_neg c1) hok
        refine lv_aload_n hx hb dX1_loadVariables_7 rfl (lv_at hl 0 rfl) ?_
        refine lv_iload_n hx hb dX1_loadVariables_8 rfl (lv_at hl 2 rfl) ?_
        refine lv_aload_n hx hb dX1_loadVariables_9 rfl (lv_at hl 0 rfl) ?_
        refine ge_X1_memory hx hb hg hown kf_X1_20 hK hP dX1_loadVariables_10 ?_
        refine lv_aload_n hx hb dX1_loadVariables_13 rfl (lv_at hl 0 rfl) ?_
        refine ge_X1_index hx hb hg hown kf_X1_35 hK hP dX1_loadVariables_14 ?_
        refine lv_iload_n hx hb dX1_loadVariables_17 rfl (lv_at hl 2 rfl) ?_
        refine lv_iadd hx hb dX1_loadVariables_18 ?_
        refine g_Vi hx hb hml hown hg (c_X2_read l dC dI cI cZ x hi _ _) cs_X1_142 rfl rfl ⟨Nat.le_of_ble_eq_true rfl, Nat.le_of_ble_eq_true rfl⟩ hK hP hS (q0 := 1) rfl rfl rfl hl.1 rfl (Nat.le_of_ble_eq_true rfl) dX1_loadVariables_19 ⟨Nat.zero_le _, Nat.zero_le _⟩ (fun H locs hP hS => ?_)
        refine g_Vv hx hb hml hown hg (c_X1_putVariable l dC dI cI cZ x hi _ _ _) cs_X1_71 rfl rfl ⟨Nat.le_of_ble_eq_true rfl, Nat.le_of_ble_eq_true rfl⟩ hK hP hS (q0 := 10) rfl rfl rfl hl.1 rfl (Nat.le_of_ble_eq_true rfl) dX1_loadVariables_22 ⟨Nat.zero_le _, Nat.zero_le _⟩ (fun H locs hP hS => ?_)
        refine lv_iinc hx hb dX1_loadVariables_25 hl (k := 2) rfl rfl (by decide) rfl (fun ls hl => ?_)
        have hl : lv_has ls 3 [(2, _), (0, _), (1, _)] := hl
        refine lv_goto (tgt := 2) hx hb dX1_loadVariables_28 (by decide) ?_
        exact ih _ _ _ _ _ _ hF hok hP hS (lv_sub hl [1, 2, 0] rfl)
  refine lv_iconst (v := 0) hx hb dX1_loadVariables_0 (by decide) ?_
  refine lv_istore_n hx hb dX1_loadVariables_1 rfl hl (by decide) rfl (fun ls hl => ?_)
  have hl : lv_has ls 3 [(2, _), (0, _), (1, _)] := hl
  exact (loop 17) _ _ _ _ _ _ hF hok hP hS (lv_sub hl [1, 2, 0] rfl)
def f_X1_executeStore (u : BS) (p0 : Int32) (p1 : Int32) : Int32 × BS :=
  if p1 = 51 then
    let r1 : BS := f_X1_putDigits u (f_X1_variable u p0)
    (0, r1)
  else
    if p1 = 85 then
      let r2 : BS := f_X1_saveVariables u p0
      (0, r2)
    else
      if p1 = 101 then
        let r3 : BS := f_X1_loadVariables u p0
        (0, r3)
      else
        (2, u)
def ok_X1_executeStore (u : BS) (p0 : Int32) (p1 : Int32) : Prop :=
  if p1 = 51 then
    let r1 : BS := f_X1_putDigits u (f_X1_variable u p0)
    True
  else
    if p1 = 85 then
      ok_X1_saveVariables u p0 ∧
      let r2 : BS := f_X1_saveVariables u p0
      True
    else
      if p1 = 101 then
        ok_X1_loadVariables u p0 ∧
        let r3 : BS := f_X1_loadVariables u p0
        True
      else
        True
set_option maxHeartbeats 4000000 in
set_option maxRecDepth 100000 in
theorem c_X1_executeStore (l : Launch) (dC : Nat → ClassId) (dI : Nat → Nat → Nat) (cI cZ : ClassId) (x : Nat → Nat) (hi : g_inj 13 x) (u : BS) (p0 : Int32) (p1 : Int32) (hok : ok_X1_executeStore u p0 p1) : g_Mi l yX1_executeStore (.code yX1_executeStore cX1_executeStore 3 (some .int)) { frames := 2, cells := 0, slots := 0, locals := 44 } (dC, dI) vwCl (tysW cI cZ) (wB x cI cZ) (g_bA 13 x) u [.ref (x 10), .int p0, .int p1] (f_X1_executeStore u p0 p1).1 (f_X1_executeStore u p0 p1).2 := by
  refine Met.ofW (cc := cX1_executeStore) (maxL := 3) (ret := (some .int)) (by decide) rfl ?_
  intro p e s m args below meth c s₁ B hml hv
  obtain ⟨rfl, hP, hK⟩ := hv
  have hx := B.exec
  have hb := B.bytes
  have hr := B.returns
  have hts := atoms_spec (ws := .code yX1_executeStore cX1_executeStore 3 (some .int) :: gtbl) B.pre
  have hg : ∀ w ∈ gtbl, w.before _ s = true := fun w h => hts w (List.mem_cons_of_mem _ h)
  have hown : s.vm.findClass RX1 = some m.cls := findClass_of_methodNamed B.named
  have hlocks := B.notSynchronized
  have hS : va_S (g_bA 13 x) s.heap s.heap [] := va_S.rf
  have hl := lv_entry ([.ref (x 10), .int p0, .int p1]) (n := 3) (Nat.le_of_ble_eq_true rfl)
  rw [lg_entry_eq]
  generalize (lg_sl ([.ref (x 10), .int p0, .int p1]) ++ List.replicate (3 - (lg_sl ([.ref (x 10), .int p0, .int p1])).length) Slot.unset).toArray = ls at hl ⊢
  have hl : lv_has ls 3 [(0, .ref (x 10)), (1, .int p0), (2, .int p1)] := hl
  obtain ⟨F, hF⟩ : ∃ F, f_X1_executeStore u p0 p1 = F := ⟨_, rfl⟩
  rw [hF]
  refine lv_iload_n hx hb dX1_executeStore_0 rfl (lv_at hl 2 rfl) ?_
  refine sw_case (v := 51) (fun c1 => ?_) (fun c1 => ?_)
  · have hF := (if_pos c1).symm.trans hF
    have hok := Eq.mp (if_pos c1) hok
    refine sw_lin (off := 35) (tgt := 36) 51 hx hb dX1_executeStore_1 c1 (by decide) (by decide) ?_
    refine lv_aload_n hx hb dX1_executeStore_36 rfl (lv_at hl 0 rfl) ?_
    refine lv_aload_n hx hb dX1_executeStore_37 rfl (lv_at hl 0 rfl) ?_
    refine lv_iload_n hx hb dX1_executeStore_38 rfl (lv_at hl 1 rfl) ?_
    refine g_Vi hx hb hml hown hg (c_X1_variable l dC dI cI cZ x hi _ _) cs_X1_41 rfl rfl ⟨Nat.le_of_ble_eq_true rfl, Nat.le_of_ble_eq_true rfl⟩ hK hP hS (q0 := 10) rfl rfl rfl hl.1 rfl (Nat.le_of_ble_eq_true rfl) dX1_executeStore_39 ⟨Nat.zero_le _, Nat.zero_le _⟩ (fun H locs hP hS => ?_)
    refine g_Vv hx hb hml hown hg (c_X1_putDigits l dC dI cI cZ x hi _ _) cs_X1_133 rfl rfl ⟨Nat.le_of_ble_eq_true rfl, Nat.le_of_ble_eq_true rfl⟩ hK hP hS (q0 := 10) rfl rfl rfl hl.1 rfl (Nat.le_of_ble_eq_true rfl) dX1_executeStore_42 ⟨Nat.zero_le _, Nat.zero_le _⟩ (fun H locs hP hS => ?_)
    refine lv_iconst (v := 0) hx hb dX1_executeStore_45 (by decide) ?_
    have hF : (_, _) = F := hF
    exact g_iret hx hb hr hlocks hP hS dX1_executeStore_46 (g_p1 hF) (g_p2 hF)
  · have hF := (if_neg c1).symm.trans hF
    have hok := Eq.mp (if_neg c1) hok
    refine sw_case (v := 85) (fun c2 => ?_) (fun c2 => ?_)
    · have hF := (if_pos c2).symm.trans hF
      have hok := Eq.mp (if_pos c2) hok
      refine sw_lin (off := 46) (tgt := 47) 85 hx hb dX1_executeStore_1 c2 (by decide) (by decide) ?_
      refine lv_aload_n hx hb dX1_executeStore_47 rfl (lv_at hl 0 rfl) ?_
      refine lv_iload_n hx hb dX1_executeStore_48 rfl (lv_at hl 1 rfl) ?_
      obtain ⟨c3, hok⟩ := hok
      refine g_Vv hx hb hml hown hg (c_X1_saveVariables l dC dI cI cZ x hi _ _ c3) cs_X1_136 rfl rfl ⟨Nat.le_of_ble_eq_true rfl, Nat.le_of_ble_eq_true rfl⟩ hK hP hS (q0 := 10) rfl rfl rfl hl.1 rfl (Nat.le_of_ble_eq_true rfl) dX1_executeStore_49 ⟨Nat.zero_le _, Nat.zero_le _⟩ (fun H locs hP hS => ?_)
      refine lv_iconst (v := 0) hx hb dX1_executeStore_52 (by decide) ?_
      have hF : (_, _) = F := hF
      exact g_iret hx hb hr hlocks hP hS dX1_executeStore_53 (g_p1 hF) (g_p2 hF)
    · have hF := (if_neg c2).symm.trans hF
      have hok := Eq.mp (if_neg c2) hok
      refine sw_case (v := 101) (fun c4 => ?_) (fun c4 => ?_)
      · have hF := (if_pos c4).symm.trans hF
        have hok := Eq.mp (if_pos c4) hok
        refine sw_lin (off := 53) (tgt := 54) 101 hx hb dX1_executeStore_1 c4 (by decide) (by decide) ?_
        refine lv_aload_n hx hb dX1_executeStore_54 rfl (lv_at hl 0 rfl) ?_
        refine lv_iload_n hx hb dX1_executeStore_55 rfl (lv_at hl 1 rfl) ?_
        obtain ⟨c5, hok⟩ := hok
        refine g_Vv hx hb hml hown hg (c_X1_loadVariables l dC dI cI cZ x hi _ _ c5) cs_X1_139 rfl rfl ⟨Nat.le_of_ble_eq_true rfl, Nat.le_of_ble_eq_true rfl⟩ hK hP hS (q0 := 10) rfl rfl rfl hl.1 rfl (Nat.le_of_ble_eq_true rfl) dX1_executeStore_56 ⟨Nat.zero_le _, Nat.zero_le _⟩ (fun H locs hP hS => ?_)
        refine lv_iconst (v := 0) hx hb dX1_executeStore_59 (by decide) ?_
        have hF : (_, _) = F := hF
        exact g_iret hx hb hr hlocks hP hS dX1_executeStore_60 (g_p1 hF) (g_p2 hF)
      · have hF := (if_neg c4).symm.trans hF
        have hok := Eq.mp (if_neg c4) hok
        refine sw_ldf (tgt := 61) [51, 85, 101] hx hb dX1_executeStore_1 (List.forall_mem_cons.mpr ⟨c1, List.forall_mem_cons.mpr ⟨c2, List.forall_mem_cons.mpr ⟨c4, fun _ h => absurd h List.not_mem_nil⟩⟩⟩) (by decide) (by decide) ?_
        refine lv_iconst (v := 2) hx hb dX1_executeStore_61 (by decide) ?_
        have hF : (_, _) = F := hF
        exact g_iret hx hb hr hlocks hP hS dX1_executeStore_62 (g_p1 hF) (g_p2 hF)
def f_X1_flip (u : BS) (p0 : Int32) (p1 : Int32) : Int32 × BS :=
  let t1 : Int32 := (f_X2_read u p0)
  let r2 : BS := f_X2_write u p0 (t1 ^^^ p1)
  if (t1 &&& p1) = 0 then
    (0, r2)
  else
    (1, r2)
set_option maxHeartbeats 4000000 in
set_option maxRecDepth 100000 in
theorem c_X1_flip (l : Launch) (dC : Nat → ClassId) (dI : Nat → Nat → Nat) (cI cZ : ClassId) (x : Nat → Nat) (hi : g_inj 13 x) (u : BS) (p0 : Int32) (p1 : Int32) : g_Mi l yX1_flip (.code yX1_flip cX1_flip 4 (some .boolean)) { frames := 1, cells := 0, slots := 0, locals := 22 } (dC, dI) vwCl (tysW cI cZ) (wB x cI cZ) (g_bA 13 x) u [.ref (x 10), .int p0, .int p1] (f_X1_flip u p0 p1).1 (f_X1_flip u p0 p1).2 := by
  refine Met.ofW (cc := cX1_flip) (maxL := 4) (ret := (some .boolean)) (by decide) rfl ?_
  intro p e s m args below meth c s₁ B hml hv
  obtain ⟨rfl, hP, hK⟩ := hv
  have hx := B.exec
  have hb := B.bytes
  have hr := B.returns
  have hts := atoms_spec (ws := .code yX1_flip cX1_flip 4 (some .boolean) :: gtbl) B.pre
  have hg : ∀ w ∈ gtbl, w.before _ s = true := fun w h => hts w (List.mem_cons_of_mem _ h)
  have hown : s.vm.findClass RX1 = some m.cls := findClass_of_methodNamed B.named
  have hlocks := B.notSynchronized
  have hS : va_S (g_bA 13 x) s.heap s.heap [] := va_S.rf
  have hl := lv_entry ([.ref (x 10), .int p0, .int p1]) (n := 4) (Nat.le_of_ble_eq_true rfl)
  rw [lg_entry_eq]
  generalize (lg_sl ([.ref (x 10), .int p0, .int p1]) ++ List.replicate (4 - (lg_sl ([.ref (x 10), .int p0, .int p1])).length) Slot.unset).toArray = ls at hl ⊢
  have hl : lv_has ls 4 [(0, .ref (x 10)), (1, .int p0), (2, .int p1)] := hl
  obtain ⟨F, hF⟩ : ∃ F, f_X1_flip u p0 p1 = F := ⟨_, rfl⟩
  rw [hF]
  refine lv_aload_n hx hb dX1_flip_0 rfl (lv_at hl 0 rfl) ?_
  refine ge_X1_memory hx hb hg hown kf_X1_20 hK hP dX1_flip_1 ?_
  refine lv_iload_n hx hb dX1_flip_4 rfl (lv_at hl 1 rfl) ?_
  refine g_Vi hx hb hml hown hg (c_X2_read l dC dI cI cZ x hi _ _) cs_X1_142 rfl rfl ⟨Nat.le_of_ble_eq_true rfl, Nat.le_of_ble_eq_true rfl⟩ hK hP hS (q0 := 1) rfl rfl rfl hl.1 rfl (Nat.le_of_ble_eq_true rfl) dX1_flip_5 ⟨Nat.zero_le _, Nat.zero_le _⟩ (fun H locs hP hS => ?_)
  refine lv_istore_n hx hb dX1_flip_8 rfl hl (by decide) rfl (fun ls hl => ?_)
  have hl : lv_has ls 4 [(3, _), (0, _), (1, _), (2, _)] := hl
  refine lv_aload_n hx hb dX1_flip_9 rfl (lv_at hl 1 rfl) ?_
  refine ge_X1_memory hx hb hg hown kf_X1_20 hK hP dX1_flip_10 ?_
  refine lv_iload_n hx hb dX1_flip_13 rfl (lv_at hl 2 rfl) ?_
  refine lv_iload_n hx hb dX1_flip_14 rfl (lv_at hl 0 rfl) ?_
  refine lv_iload_n hx hb dX1_flip_15 rfl (lv_at hl 3 rfl) ?_
  refine lv_ixor hx hb dX1_flip_16 ?_
  refine g_Vv hx hb hml hown hg (c_X2_write l dC dI cI cZ x hi _ _ _) cs_X1_109 rfl rfl ⟨Nat.le_of_ble_eq_true rfl, Nat.le_of_ble_eq_true rfl⟩ hK hP hS (q0 := 1) rfl rfl rfl hl.1 rfl (Nat.le_of_ble_eq_true rfl) dX1_flip_17 ⟨Nat.zero_le _, Nat.zero_le _⟩ (fun H locs hP hS => ?_)
  refine lv_iload_n hx hb dX1_flip_20 rfl (lv_at hl 0 rfl) ?_
  refine lv_iload_n hx hb dX1_flip_21 rfl (lv_at hl 3 rfl) ?_
  refine lv_iand hx hb dX1_flip_22 ?_
  refine lv_if_eq (tgt := 30) hx hb dX1_flip_23 (by decide) (fun c1 => ?_) (fun c1 => ?_)
  · have hF := (if_pos c1).symm.trans hF
    refine lv_iconst (v := 0) hx hb dX1_flip_30 (by decide) ?_
    have hF : (_, _) = F := hF
    exact g_zret hx hb hr hlocks hP hS dX1_flip_31 rfl (g_p1 hF) (g_p2 hF)
  · have hF := (if_neg c1).symm.trans hF
    refine lv_iconst (v := 1) hx hb dX1_flip_26 (by decide) ?_
    refine lv_goto (tgt := 31) hx hb dX1_flip_27 (by decide) ?_
    have hF : (_, _) = F := hF
    exact g_zret hx hb hr hlocks hP hS dX1_flip_31 rfl (g_p1 hF) (g_p2 hF)
def f_X1_drawByte (u : BS) (p0 : Int32) (p1 : Int32) (p2 : Int32) : Int32 × BS :=
  let t1 : Int32 := (((1792 : Int32) + (p0 * 8)) + (p1 / 8))
  let t2 : Int32 := (p1 - p1 / 8 * 8)
  let r3 : Int32 × BS := f_X1_flip u t1 (p2 >>> (t2 &&& 31))
  let t4 : Int32 := r3.1
  if 7 ≤ (p1 / 8) then
    ((vp_nar .boolean t4), r3.2)
  else
    let r5 : Int32 × BS := f_X1_flip r3.2 (t1 + 1) ((p2 <<< (((8 : Int32) - t2) &&& 31)) &&& 255)
    if r5.1 = 0 then
      ((vp_nar .boolean t4), r5.2)
    else
      (1, r5.2)
set_option maxHeartbeats 4000000 in
set_option maxRecDepth 100000 in
theorem c_X1_drawByte (l : Launch) (dC : Nat → ClassId) (dI : Nat → Nat → Nat) (cI cZ : ClassId) (x : Nat → Nat) (hi : g_inj 13 x) (u : BS) (p0 : Int32) (p1 : Int32) (p2 : Int32) : g_Mi l yX1_drawByte (.code yX1_drawByte cX1_drawByte 7 (some .boolean)) { frames := 2, cells := 0, slots := 0, locals := 45 } (dC, dI) vwCl (tysW cI cZ) (wB x cI cZ) (g_bA 13 x) u [.ref (x 10), .int p0, .int p1, .int p2] (f_X1_drawByte u p0 p1 p2).1 (f_X1_drawByte u p0 p1 p2).2 := by
  refine Met.ofW (cc := cX1_drawByte) (maxL := 7) (ret := (some .boolean)) (by decide) rfl ?_
  intro p e s m args below meth c s₁ B hml hv
  obtain ⟨rfl, hP, hK⟩ := hv
  have hx := B.exec
  have hb := B.bytes
  have hr := B.returns
  have hts := atoms_spec (ws := .code yX1_drawByte cX1_drawByte 7 (some .boolean) :: gtbl) B.pre
  have hg : ∀ w ∈ gtbl, w.before _ s = true := fun w h => hts w (List.mem_cons_of_mem _ h)
  have hown : s.vm.findClass RX1 = some m.cls := findClass_of_methodNamed B.named
  have hlocks := B.notSynchronized
  have hS : va_S (g_bA 13 x) s.heap s.heap [] := va_S.rf
  have hl := lv_entry ([.ref (x 10), .int p0, .int p1, .int p2]) (n := 7) (Nat.le_of_ble_eq_true rfl)
  rw [lg_entry_eq]
  generalize (lg_sl ([.ref (x 10), .int p0, .int p1, .int p2]) ++ List.replicate (7 - (lg_sl ([.ref (x 10), .int p0, .int p1, .int p2])).length) Slot.unset).toArray = ls at hl ⊢
  have hl : lv_has ls 7 [(0, .ref (x 10)), (1, .int p0), (2, .int p1), (3, .int p2)] := hl
  obtain ⟨F, hF⟩ : ∃ F, f_X1_drawByte u p0 p1 p2 = F := ⟨_, rfl⟩
  rw [hF]
  refine lv_sipush (v := 1792) hx hb dX1_drawByte_0 (by decide) ?_
  refine lv_iload_n hx hb dX1_drawByte_3 rfl (lv_at hl 1 rfl) ?_
  refine lv_bipush (v := 8) hx hb dX1_drawByte_4 (by decide) ?_
  refine lv_imul hx hb dX1_drawByte_6 ?_
  refine lv_iadd hx hb dX1_drawByte_7 ?_
  refine lv_iload_n hx hb dX1_drawByte_8 rfl (lv_at hl 2 rfl) ?_
  refine lv_bipush (v := 8) hx hb dX1_drawByte_9 (by decide) ?_
  refine lv_idiv hx hb dX1_drawByte_11 (by decide) ?_
  refine lv_iadd hx hb dX1_drawByte_12 ?_
  refine lv_istore hx hb dX1_drawByte_13 hl (by decide) rfl (fun ls hl => ?_)
  have hl : lv_has ls 7 [(4, _), (0, _), (1, _), (2, _), (3, _)] := hl
  refine lv_iload_n hx hb dX1_drawByte_15 rfl (lv_at hl 3 rfl) ?_
  refine lv_bipush (v := 8) hx hb dX1_drawByte_16 (by decide) ?_
  refine lv_irem hx hb dX1_drawByte_18 (by decide) ?_
  refine lv_istore hx hb dX1_drawByte_19 hl (by decide) rfl (fun ls hl => ?_)
  have hl : lv_has ls 7 [(5, _), (4, _), (0, _), (1, _), (2, _), (3, _)] := hl
  refine lv_aload_n hx hb dX1_drawByte_21 rfl (lv_at hl 2 rfl) ?_
  refine lv_iload hx hb dX1_drawByte_22 (lv_at hl 1 rfl) ?_
  refine lv_iload_n hx hb dX1_drawByte_24 rfl (lv_at hl 5 rfl) ?_
  refine lv_iload hx hb dX1_drawByte_25 (lv_at hl 0 rfl) ?_
  refine lv_ishr hx hb dX1_drawByte_27 ?_
  refine g_Vi hx hb hml hown hg (c_X1_flip l dC dI cI cZ x hi _ _ _) cs_X1_149 rfl rfl ⟨Nat.le_of_ble_eq_true rfl, Nat.le_of_ble_eq_true rfl⟩ hK hP hS (q0 := 10) rfl rfl rfl hl.1 rfl (Nat.le_of_ble_eq_true rfl) dX1_drawByte_28 ⟨Nat.zero_le _, Nat.zero_le _⟩ (fun H locs hP hS => ?_)
  refine lv_istore hx hb dX1_drawByte_31 hl (by decide) rfl (fun ls hl => ?_)
  have hl : lv_has ls 7 [(6, _), (5, _), (4, _), (0, _), (1, _), (2, _), (3, _)] := hl
  refine lv_iload_n hx hb dX1_drawByte_33 rfl (lv_at hl 5 rfl) ?_
  refine lv_bipush (v := 8) hx hb dX1_drawByte_34 (by decide) ?_
  refine lv_idiv hx hb dX1_drawByte_36 (by decide) ?_
  refine lv_bipush (v := 7) hx hb dX1_drawByte_37 (by decide) ?_
  refine lv_icmp_ge (tgt := 67) hx hb dX1_drawByte_39 (by decide) (fun c1 => ?_) (fun c1 => ?_)
  · have hF := (if_pos c1).symm.trans hF
    refine lv_iload hx hb dX1_drawByte_67 (lv_at hl 0 rfl) ?_
    have hF : (_, _) = F := hF
    exact g_zretN hx hb hr hlocks hP hS dX1_drawByte_69 (g_p1 hF) (g_p2 hF)
  · have hF := (if_neg c1).symm.trans hF
    refine lv_aload_n hx hb dX1_drawByte_42 rfl (lv_at hl 3 rfl) ?_
    refine lv_iload hx hb dX1_drawByte_43 (lv_at hl 2 rfl) ?_
    refine lv_iconst (v := 1) hx hb dX1_drawByte_45 (by decide) ?_
    refine lv_iadd hx hb dX1_drawByte_46 ?_
    refine lv_iload_n hx hb dX1_drawByte_47 rfl (lv_at hl 6 rfl) ?_
    refine lv_bipush (v := 8) hx hb dX1_drawByte_48 (by decide) ?_
    refine lv_iload hx hb dX1_drawByte_50 (lv_at hl 1 rfl) ?_
    refine lv_isub hx hb dX1_drawByte_52 ?_
    refine lv_ishl hx hb dX1_drawByte_53 ?_
    refine lv_sipush (v := 255) hx hb dX1_drawByte_54 (by decide) ?_
    refine lv_iand hx hb dX1_drawByte_57 ?_
    refine g_Vi hx hb hml hown hg (c_X1_flip l dC dI cI cZ x hi _ _ _) cs_X1_149 rfl rfl ⟨Nat.le_of_ble_eq_true rfl, Nat.le_of_ble_eq_true rfl⟩ hK hP hS (q0 := 10) rfl rfl rfl hl.1 rfl (Nat.le_of_ble_eq_true rfl) dX1_drawByte_58 ⟨Nat.zero_le _, Nat.zero_le _⟩ (fun H locs hP hS => ?_)
    refine lv_if_eq (tgt := 67) hx hb dX1_drawByte_61 (by decide) (fun c2 => ?_) (fun c2 => ?_)
    · have hF := (if_pos c2).symm.trans hF
      refine lv_iload hx hb dX1_drawByte_67 (lv_at hl 0 rfl) ?_
      have hF : (_, _) = F := hF
      exact g_zretN hx hb hr hlocks hP hS dX1_drawByte_69 (g_p1 hF) (g_p2 hF)
    · have hF := (if_neg c2).symm.trans hF
      refine lv_iconst (v := 1) hx hb dX1_drawByte_64 (by decide) ?_
      refine lv_istore hx hb dX1_drawByte_65 hl (by decide) rfl (fun ls hl => ?_)
      have hl : lv_has ls 7 [(6, _), (5, _), (4, _), (0, _), (1, _), (2, _), (3, _)] := hl
      refine lv_iload hx hb dX1_drawByte_67 (lv_at hl 0 rfl) ?_
      have hF : (_, _) = F := hF
      exact g_zret hx hb hr hlocks hP hS dX1_drawByte_69 rfl (g_p1 hF) (g_p2 hF)
def f_X1_draw_L : Nat → BS → Int32 → Int32 → Int32 → Int32 → Int32 → Int32 → Int32 → BS
  | 0, u, _, _, _, _, _, _, _ => u
  | n + 1, u, a1, a2, a3, a4, a5, a6, a7 =>
    if a3 ≤ a7 then
      if a6 = 0 then
        let r3 : BS := f_X1_putVariable u 15 0
        r3
      else
        let r4 : BS := f_X1_putVariable u 15 1
        r4
    else
      if 32 ≤ (a5 + a7) then
        if a6 = 0 then
          let r5 : BS := f_X1_putVariable u 15 0
          r5
        else
          let r6 : BS := f_X1_putVariable u 15 1
          r6
      else
        let r7 : Int32 × BS := f_X1_drawByte u (a5 + a7) a4 (f_X2_read u ((bq_index u) + a7))
        if r7.1 = 0 then
          let t8 : Int32 := a7 + Int32.ofInt 1
          f_X1_draw_L n r7.2 a1 a2 a3 a4 a5 a6 t8
        else
          let t9 : Int32 := a7 + Int32.ofInt 1
          f_X1_draw_L n r7.2 a1 a2 a3 a4 a5 1 t9
def ok_X1_draw_L : Nat → BS → Int32 → Int32 → Int32 → Int32 → Int32 → Int32 → Int32 → Prop
  | 0, _, _, _, _, _, _, _, _ => False
  | n + 1, u, a1, a2, a3, a4, a5, a6, a7 =>
    if a3 ≤ a7 then
      if a6 = 0 then
        let r3 : BS := f_X1_putVariable u 15 0
        True
      else
        let r4 : BS := f_X1_putVariable u 15 1
        True
    else
      if 32 ≤ (a5 + a7) then
        if a6 = 0 then
          let r5 : BS := f_X1_putVariable u 15 0
          True
        else
          let r6 : BS := f_X1_putVariable u 15 1
          True
      else
        let r7 : Int32 × BS := f_X1_drawByte u (a5 + a7) a4 (f_X2_read u ((bq_index u) + a7))
        if r7.1 = 0 then
          let t8 : Int32 := a7 + Int32.ofInt 1
          ok_X1_draw_L n r7.2 a1 a2 a3 a4 a5 a6 t8
        else
          let t9 : Int32 := a7 + Int32.ofInt 1
          ok_X1_draw_L n r7.2 a1 a2 a3 a4 a5 1 t9
def f_X1_draw (u : BS) (p0 : Int32) (p1 : Int32) (p2 : Int32) : BS :=
  let t1 : Int32 := (p0 &&& 63)
  let t2 : Int32 := (p1 &&& 31)
  f_X1_draw_L 17 u p0 p1 p2 t1 t2 0 0
def ok_X1_draw (u : BS) (p0 : Int32) (p1 : Int32) (p2 : Int32) : Prop :=
  let t1 : Int32 := (p0 &&& 63)
  let t2 : Int32 := (p1 &&& 31)
  ok_X1_draw_L 17 u p0 p1 p2 t1 t2 0 0
set_option maxHeartbeats 4000000 in
set_option maxRecDepth 100000 in
theorem c_X1_draw (l : Launch) (dC : Nat → ClassId) (dI : Nat → Nat → Nat) (cI cZ : ClassId) (x : Nat → Nat) (hi : g_inj 13 x) (u : BS) (p0 : Int32) (p1 : Int32) (p2 : Int32) (hok : ok_X1_draw u p0 p1 p2) : g_Mv l yX1_draw (.code yX1_draw cX1_draw 8 none) { frames := 3, cells := 0, slots := 0, locals := 71 } (dC, dI) vwCl (tysW cI cZ) (wB x cI cZ) (g_bA 13 x) u [.ref (x 10), .int p0, .int p1, .int p2] (f_X1_draw u p0 p1 p2) := by
  refine Met.ofW (cc := cX1_draw) (maxL := 8) (ret := none) (by decide) rfl ?_
  intro p e s m args below meth c s₁ B hml hv
  obtain ⟨rfl, hP, hK⟩ := hv
  have hx := B.exec
  have hb := B.bytes
  have hr := B.returns
  have hts := atoms_spec (ws := .code yX1_draw cX1_draw 8 none :: gtbl) B.pre
  have hg : ∀ w ∈ gtbl, w.before _ s = true := fun w h => hts w (List.mem_cons_of_mem _ h)
  have hown : s.vm.findClass RX1 = some m.cls := findClass_of_methodNamed B.named
  have hlocks := B.notSynchronized
  have hS : va_S (g_bA 13 x) s.heap s.heap [] := va_S.rf
  have hl := lv_entry ([.ref (x 10), .int p0, .int p1, .int p2]) (n := 8) (Nat.le_of_ble_eq_true rfl)
  rw [lg_entry_eq]
  generalize (lg_sl ([.ref (x 10), .int p0, .int p1, .int p2]) ++ List.replicate (8 - (lg_sl ([.ref (x 10), .int p0, .int p1, .int p2])).length) Slot.unset).toArray = ls at hl ⊢
  have hl : lv_has ls 8 [(0, .ref (x 10)), (1, .int p0), (2, .int p1), (3, .int p2)] := hl
  obtain ⟨F, hF⟩ : ∃ F, f_X1_draw u p0 p1 p2 = F := ⟨_, rfl⟩
  rw [hF]
  have loop : ∀ (n : Nat), (∀ (u : BS) (a1 : Int32) (a2 : Int32) (a3 : Int32) (a4 : Int32) (a5 : Int32) (a6 : Int32) (a7 : Int32) (H : Heap) (locs : List Loc) (ls : Array Slot), f_X1_draw_L n u a1 a2 a3 a4 a5 a6 a7 = F → ok_X1_draw_L n u a1 a2 a3 a4 a5 a6 a7 → va_P (dC, dI) vwCl (wB x cI cZ u) H → va_S (g_bA 13 x) s.heap H locs → lv_has ls 8 [(0, .ref (x 10)), (1, .int a1), (2, .int a2), (3, .int a3), (4, .int a4), (5, .int a5), (6, .int a6), (7, .int a7)] → W p l e (headSpec (.code yX1_draw cX1_draw 8 none :: gtbl) { frames := 3, cells := 0, slots := 0, locals := 71 }).room s m ([.ref (x 10), .int p0, .int p1, .int p2] : List Value).toArray below meth c H locs 0 0 (MQ below (va_Qv (fun v1 => v1 = F) (fun v1 t => va_P (dC, dI) vwCl (wB x cI cZ v1) t.heap) (g_bA 13 x)) ([.ref (x 10), .int p0, .int p1, .int p2] : List Value).toArray s 0 0 (g_bA 13 x)) (F0 m 18 ls [])) := by
    intro n
    induction n with
    | zero => intro u a1 a2 a3 a4 a5 a6 a7 H locs ls hF hok; exact hok.elim
    | succ n ih =>
      intro u a1 a2 a3 a4 a5 a6 a7 H locs ls hF hok hP hS hl
      refine lv_iload hx hb dX1_draw_18 (lv_at hl 7 rfl) ?_
      refine lv_iload_n hx hb dX1_draw_20 rfl (lv_at hl 3 rfl) ?_
      refine lv_icmp_ge (tgt := 71) hx hb dX1_draw_21 (by decide) (fun c1 => ?_) (fun c1 => ?_)
      · have hF := (if_pos c1).symm.trans hF
        have hok := Eq.mp (if_pos c1) hok
        refine lv_aload_n hx hb dX1_draw_71 rfl (lv_at hl 0 rfl) ?_
        refine lv_bipush (v := 15) hx hb dX1_draw_72 (by decide) ?_
        refine lv_iload hx hb dX1_draw_74 (lv_at hl 6 rfl) ?_
        refine lv_if_eq (tgt := 83) hx hb dX1_draw_76 (by decide) (fun c2 => ?_) (fun c2 => ?_)
        · have hF := (if_pos c2).symm.trans hF
          have hok := Eq.mp (if_pos c2) hok
          refine lv_iconst (v := 0) hx hb dX1_draw_83 (by decide) ?_
          refine g_Vv hx hb hml hown hg (c_X1_putVariable l dC dI cI cZ x hi _ _ _) cs_X1_71 rfl rfl ⟨Nat.le_of_ble_eq_true rfl, Nat.le_of_ble_eq_true rfl⟩ hK hP hS (q0 := 10) rfl rfl rfl hl.1 rfl (Nat.le_of_ble_eq_true rfl) dX1_draw_84 ⟨Nat.zero_le _, Nat.zero_le _⟩ (fun H locs hP hS => ?_)
          exact g_vret hx hb hr hlocks hP hS dX1_draw_87 hF
        · have hF := (if_neg c2).symm.trans hF
          have hok := Eq.mp (if_neg c2) hok
          refine lv_iconst (v := 1) hx hb dX1_draw_79 (by decide) ?_
          refine lv_goto (tgt := 84) hx hb dX1_draw_80 (by decide) ?_
          refine g_Vv hx hb hml hown hg (c_X1_putVariable l dC dI cI cZ x hi _ _ _) cs_X1_71 rfl rfl ⟨Nat.le_of_ble_eq_true rfl, Nat.le_of_ble_eq_true rfl⟩ hK hP hS (q0 := 10) rfl rfl rfl hl.1 rfl (Nat.le_of_ble_eq_true rfl) dX1_draw_84 ⟨Nat.zero_le _, Nat.zero_le _⟩ (fun H locs hP hS => ?_)
          exact g_vret hx hb hr hlocks hP hS dX1_draw_87 hF
      · have hF := (if_neg c1).symm.trans hF
        have hok := Eq.mp (if_neg c1) hok
        refine lv_iload hx hb dX1_draw_24 (lv_at hl 5 rfl) ?_
        refine lv_iload hx hb dX1_draw_26 (lv_at hl 7 rfl) ?_
        refine lv_iadd hx hb dX1_draw_28 ?_
        refine lv_bipush (v := 32) hx hb dX1_draw_29 (by decide) ?_
        refine lv_icmp_ge (tgt := 71) hx hb dX1_draw_31 (by decide) (fun c3 => ?_) (fun c3 => ?_)
        · have hF := (if_pos c3).symm.trans hF
          have hok := Eq.mp (if_pos c3) hok
          refine lv_aload_n hx hb dX1_draw_71 rfl (lv_at hl 0 rfl) ?_
          refine lv_bipush (v := 15) hx hb dX1_draw_72 (by decide) ?_
          refine lv_iload hx hb dX1_draw_74 (lv_at hl 6 rfl) ?_
          refine lv_if_eq (tgt := 83) hx hb dX1_draw_76 (by decide) (fun c4 => ?_) (fun c4 => ?_)
          · have hF := (if_pos c4).symm.trans hF
            have hok := Eq.mp (if_pos c4) hok
            refine lv_iconst (v := 0) hx hb dX1_draw_83 (by decide) ?_
            refine g_Vv hx hb hml hown hg (c_X1_putVariable l dC dI cI cZ x hi _ _ _) cs_X1_71 rfl rfl ⟨Nat.le_of_ble_eq_true rfl, Nat.le_of_ble_eq_true rfl⟩ hK hP hS (q0 := 10) rfl rfl rfl hl.1 rfl (Nat.le_of_ble_eq_true rfl) dX1_draw_84 ⟨Nat.zero_le _, Nat.zero_le _⟩ (fun H locs hP hS => ?_)
            exact g_vret hx hb hr hlocks hP hS dX1_draw_87 hF
          · have hF := (if_neg c4).symm.trans hF
            have hok := Eq.mp (if_neg c4) hok
            refine lv_iconst (v := 1) hx hb dX1_draw_79 (by decide) ?_
            refine lv_goto (tgt := 84) hx hb dX1_draw_80 (by decide) ?_
            refine g_Vv hx hb hml hown hg (c_X1_putVariable l dC dI cI cZ x hi _ _ _) cs_X1_71 rfl rfl ⟨Nat.le_of_ble_eq_true rfl, Nat.le_of_ble_eq_true rfl⟩ hK hP hS (q0 := 10) rfl rfl rfl hl.1 rfl (Nat.le_of_ble_eq_true rfl) dX1_draw_84 ⟨Nat.zero_le _, Nat.zero_le _⟩ (fun H locs hP hS => ?_)
            exact g_vret hx hb hr hlocks hP hS dX1_draw_87 hF
        · have hF := (if_neg c3).symm.trans hF
          have hok := Eq.mp (if_neg c3) hok
          refine lv_aload_n hx hb dX1_draw_34 rfl (lv_at hl 0 rfl) ?_
          refine lv_iload hx hb dX1_draw_35 (lv_at hl 5 rfl) ?_
          refine lv_iload hx hb dX1_draw_37 (lv_at hl 7 rfl) ?_
          refine lv_iadd hx hb dX1_draw_39 ?_
          refine lv_iload hx hb dX1_draw_40 (lv_at hl 4 rfl) ?_
          refine lv_aload_n hx hb dX1_draw_42 rfl (lv_at hl 0 rfl) ?_
          refine ge_X1_memory hx hb hg hown kf_X1_20 hK hP dX1_draw_43 ?_
          refine lv_aload_n hx hb dX1_draw_46 rfl (lv_at hl 0 rfl) ?_
          refine ge_X1_index hx hb hg hown kf_X1_35 hK hP dX1_draw_47 ?_
          refine lv_iload hx hb dX1_draw_50 (lv_at hl 7 rfl) ?_
          refine lv_iadd hx hb dX1_draw_52 ?_
          refine g_Vi hx hb hml hown hg (c_X2_read l dC dI cI cZ x hi _ _) cs_X1_142 rfl rfl ⟨Nat.le_of_ble_eq_true rfl, Nat.le_of_ble_eq_true rfl⟩ hK hP hS (q0 := 1) rfl rfl rfl hl.1 rfl (Nat.le_of_ble_eq_true rfl) dX1_draw_53 ⟨Nat.zero_le _, Nat.zero_le _⟩ (fun H locs hP hS => ?_)
          refine g_Vi hx hb hml hown hg (c_X1_drawByte l dC dI cI cZ x hi _ _ _ _) cs_X1_145 rfl rfl ⟨Nat.le_of_ble_eq_true rfl, Nat.le_of_ble_eq_true rfl⟩ hK hP hS (q0 := 10) rfl rfl rfl hl.1 rfl (Nat.le_of_ble_eq_true rfl) dX1_draw_56 ⟨Nat.zero_le _, Nat.zero_le _⟩ (fun H locs hP hS => ?_)
          refine lv_if_eq (tgt := 65) hx hb dX1_draw_59 (by decide) (fun c5 => ?_) (fun c5 => ?_)
          · have hF := (if_pos c5).symm.trans hF
            have hok := Eq.mp (if_pos c5) hok
            refine lv_iinc hx hb dX1_draw_65 hl (k := 7) rfl rfl (by decide) rfl (fun ls hl => ?_)
            have hl : lv_has ls 8 [(7, _), (0, _), (1, _), (2, _), (3, _), (4, _), (5, _), (6, _)] := hl
            refine lv_goto (tgt := 18) hx hb dX1_draw_68 (by decide) ?_
            exact ih _ _ _ _ _ _ _ _ _ _ _ hF hok hP hS (lv_sub hl [1, 2, 3, 4, 5, 6, 7, 0] rfl)
          · have hF := (if_neg c5).symm.trans hF
            have hok := Eq.mp (if_neg c5) hok
            refine lv_iconst (v := 1) hx hb dX1_draw_62 (by decide) ?_
            refine lv_istore hx hb dX1_draw_63 hl (by decide) rfl (fun ls hl => ?_)
            have hl : lv_has ls 8 [(6, _), (0, _), (1, _), (2, _), (3, _), (4, _), (5, _), (7, _)] := hl
            refine lv_iinc hx hb dX1_draw_65 hl (k := 7) rfl rfl (by decide) rfl (fun ls hl => ?_)
            have hl : lv_has ls 8 [(7, _), (6, _), (0, _), (1, _), (2, _), (3, _), (4, _), (5, _)] := hl
            refine lv_goto (tgt := 18) hx hb dX1_draw_68 (by decide) ?_
            exact ih _ _ _ _ _ _ _ _ _ _ _ hF hok hP hS (lv_sub hl [2, 3, 4, 5, 6, 7, 1, 0] rfl)
  refine lv_iload_n hx hb dX1_draw_0 rfl (lv_at hl 1 rfl) ?_
  refine lv_bipush (v := 63) hx hb dX1_draw_1 (by decide) ?_
  refine lv_iand hx hb dX1_draw_3 ?_
  refine lv_istore hx hb dX1_draw_4 hl (by decide) rfl (fun ls hl => ?_)
  have hl : lv_has ls 8 [(4, _), (0, _), (1, _), (2, _), (3, _)] := hl
  refine lv_iload_n hx hb dX1_draw_6 rfl (lv_at hl 3 rfl) ?_
  refine lv_bipush (v := 31) hx hb dX1_draw_7 (by decide) ?_
  refine lv_iand hx hb dX1_draw_9 ?_
  refine lv_istore hx hb dX1_draw_10 hl (by decide) rfl (fun ls hl => ?_)
  have hl : lv_has ls 8 [(5, _), (4, _), (0, _), (1, _), (2, _), (3, _)] := hl
  refine lv_iconst (v := 0) hx hb dX1_draw_12 (by decide) ?_
  refine lv_istore hx hb dX1_draw_13 hl (by decide) rfl (fun ls hl => ?_)
  have hl : lv_has ls 8 [(6, _), (5, _), (4, _), (0, _), (1, _), (2, _), (3, _)] := hl
  refine lv_iconst (v := 0) hx hb dX1_draw_15 (by decide) ?_
  refine lv_istore hx hb dX1_draw_16 hl (by decide) rfl (fun ls hl => ?_)
  have hl : lv_has ls 8 [(7, _), (6, _), (5, _), (4, _), (0, _), (1, _), (2, _), (3, _)] := hl
  exact (loop 17) _ _ _ _ _ _ _ _ _ _ _ hF hok hP hS (lv_sub hl [4, 5, 6, 7, 3, 2, 1, 0] rfl)
