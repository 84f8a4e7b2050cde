def f_X2_read (u : BS) (p0 : Int32) : Int32 :=
  (bq_mem u ((p0 &&& 2047)).toNatClampNeg)
set_option maxHeartbeats 4000000 in
set_option maxRecDepth 100000 in
theorem c_X2_read (l : Launch) (dC : Nat → ClassId) (dI : Nat → Nat → Nat) (cI cZ : ClassId) (x : Nat → Nat) (hi : g_inj 13 x) (u : BS) (p0 : Int32) : g_Mi l yX2_read (.code yX2_read cX2_read 2 (some .int)) { frames := 0, cells := 0, slots := 0, locals := 0 } (dC, dI) vwCl (tysW cI cZ) (wB x cI cZ) (g_bA 13 x) u [.ref (x 1), .int p0] (f_X2_read u p0) u := by
  refine Met.ofW (cc := cX2_read) (maxL := 2) (ret := (some .int)) (by decide) rfl ?_
  intro p e s m args below meth c s₁ B hml hv
  obtain ⟨rfl, hP, hK⟩ := hv
  have hx := B.exec
  have hb := B.bytes
  have hr := B.returns
  have hts := atoms_spec (ws := .code yX2_read cX2_read 2 (some .int) :: gtbl) B.pre
  have hg : ∀ w ∈ gtbl, w.before _ s = true := fun w h => hts w (List.mem_cons_of_mem _ h)
  have hown : s.vm.findClass RX2 = some m.cls := findClass_of_methodNamed B.named
  have hlocks := B.notSynchronized
  have hS : va_S (g_bA 13 x) s.heap s.heap [] := va_S.rf
  have hl := lv_entry ([.ref (x 1), .int p0]) (n := 2) (Nat.le_of_ble_eq_true rfl)
  rw [lg_entry_eq]
  generalize (lg_sl ([.ref (x 1), .int p0]) ++ List.replicate (2 - (lg_sl ([.ref (x 1), .int p0])).length) Slot.unset).toArray = ls at hl ⊢
  have hl : lv_has ls 2 [(0, .ref (x 1)), (1, .int p0)] := hl
  obtain ⟨F, hF⟩ : ∃ F, f_X2_read u p0 = F := ⟨_, rfl⟩
  rw [hF]
  refine lv_aload_n hx hb dX2_read_0 rfl (lv_at hl 0 rfl) ?_
  refine ge_X2_bytes hx hb hg hown kf_X2_9 hK hP dX2_read_1 ?_
  refine lv_iload_n hx hb dX2_read_4 rfl (lv_at hl 1 rfl) ?_
  refine lv_sipush (v := 2047) hx hb dX2_read_5 (by decide) ?_
  refine lv_iand hx hb dX2_read_8 ?_
  refine bl_mem hx hb hK hP (pk_andIn _ 11 rfl (by decide)) dX2_read_9 ?_
  exact g_iret hx hb hr hlocks hP hS dX2_read_10 hF rfl
def f_X2_write (u : BS) (p0 : Int32) (p1 : Int32) : BS :=
  let u1 : BS := bs_mem u (upd (bq_mem u) ((p0 &&& 2047)).toNatClampNeg (p1 &&& 255))
  u1
set_option maxHeartbeats 4000000 in
set_option maxRecDepth 100000 in
theorem c_X2_write (l : Launch) (dC : Nat → ClassId) (dI : Nat → Nat → Nat) (cI cZ : ClassId) (x : Nat → Nat) (hi : g_inj 13 x) (u : BS) (p0 : Int32) (p1 : Int32) : g_Mv l yX2_write (.code yX2_write cX2_write 3 none) { frames := 0, cells := 0, slots := 0, locals := 0 } (dC, dI) vwCl (tysW cI cZ) (wB x cI cZ) (g_bA 13 x) u [.ref (x 1), .int p0, .int p1] (f_X2_write u p0 p1) := by
  refine Met.ofW (cc := cX2_write) (maxL := 3) (ret := none) (by decide) rfl ?_
  intro p e s m args below meth c s₁ B hml hv
  obtain ⟨rfl, hP, hK⟩ := hv
  have hx := B.exec
  have hb := B.bytes
  have hr := B.returns
  have hts := atoms_spec (ws := .code yX2_write cX2_write 3 none :: gtbl) B.pre
  have hg : ∀ w ∈ gtbl, w.before _ s = true := fun w h => hts w (List.mem_cons_of_mem _ h)
  have hown : s.vm.findClass RX2 = some m.cls := findClass_of_methodNamed B.named
  have hlocks := B.notSynchronized
  have hS : va_S (g_bA 13 x) s.heap s.heap [] := va_S.rf
  have hl := lv_entry ([.ref (x 1), .int p0, .int p1]) (n := 3) (Nat.le_of_ble_eq_true rfl)
  rw [lg_entry_eq]
  generalize (lg_sl ([.ref (x 1), .int p0, .int p1]) ++ List.replicate (3 - (lg_sl ([.ref (x 1), .int p0, .int p1])).length) Slot.unset).toArray = ls at hl ⊢
  have hl : lv_has ls 3 [(0, .ref (x 1)), (1, .int p0), (2, .int p1)] := hl
  obtain ⟨F, hF⟩ : ∃ F, f_X2_write u p0 p1 = F := ⟨_, rfl⟩
  rw [hF]
  refine lv_aload_n hx hb dX2_write_0 rfl (lv_at hl 0 rfl) ?_
  refine ge_X2_bytes hx hb hg hown kf_X2_9 hK hP dX2_write_1 ?_
  refine lv_iload_n hx hb dX2_write_4 rfl (lv_at hl 1 rfl) ?_
  refine lv_sipush (v := 2047) hx hb dX2_write_5 (by decide) ?_
  refine lv_iand hx hb dX2_write_8 ?_
  refine lv_iload_n hx hb dX2_write_9 rfl (lv_at hl 2 rfl) ?_
  refine lv_sipush (v := 255) hx hb dX2_write_10 (by decide) ?_
  refine lv_iand hx hb dX2_write_13 ?_
  refine ba_mem hi hx hb hK hP hS (pk_andIn _ 11 rfl (by decide)) dX2_write_14 (fun H locs hP hS => ?_)
  exact g_vret hx hb hr hlocks hP hS dX2_write_15 hF
def f_X2_pair (u : BS) (p0 : Int32) : Int32 :=
  (((f_X2_read u p0) * 256) + (f_X2_read u (p0 + 1)))
set_option maxHeartbeats 4000000 in
set_option maxRecDepth 100000 in
theorem c_X2_pair (l : Launch) (dC : Nat → ClassId) (dI : Nat → Nat → Nat) (cI cZ : ClassId) (x : Nat → Nat) (hi : g_inj 13 x) (u : BS) (p0 : Int32) : g_Mi l yX2_pair (.code yX2_pair cX2_pair 2 (some .int)) { frames := 1, cells := 0, slots := 0, locals := 21 } (dC, dI) vwCl (tysW cI cZ) (wB x cI cZ) (g_bA 13 x) u [.ref (x 1), .int p0] (f_X2_pair u p0) u := by
  refine Met.ofW (cc := cX2_pair) (maxL := 2) (ret := (some .int)) (by decide) rfl ?_
  intro p e s m args below meth c s₁ B hml hv
  obtain ⟨rfl, hP, hK⟩ := hv
  have hx := B.exec
  have hb := B.bytes
  have hr := B.returns
  have hts := atoms_spec (ws := .code yX2_pair cX2_pair 2 (some .int) :: gtbl) B.pre
  have hg : ∀ w ∈ gtbl, w.before _ s = true := fun w h => hts w (List.mem_cons_of_mem _ h)
  have hown : s.vm.findClass RX2 = some m.cls := findClass_of_methodNamed B.named
  have hlocks := B.notSynchronized
  have hS : va_S (g_bA 13 x) s.heap s.heap [] := va_S.rf
  have hl := lv_entry ([.ref (x 1), .int p0]) (n := 2) (Nat.le_of_ble_eq_true rfl)
  rw [lg_entry_eq]
  generalize (lg_sl ([.ref (x 1), .int p0]) ++ List.replicate (2 - (lg_sl ([.ref (x 1), .int p0])).length) Slot.unset).toArray = ls at hl ⊢
  have hl : lv_has ls 2 [(0, .ref (x 1)), (1, .int p0)] := hl
  obtain ⟨F, hF⟩ : ∃ F, f_X2_pair u p0 = F := ⟨_, rfl⟩
  rw [hF]
  refine lv_aload_n hx hb dX2_pair_0 rfl (lv_at hl 0 rfl) ?_
  refine lv_iload_n hx hb dX2_pair_1 rfl (lv_at hl 1 rfl) ?_
  refine g_Vi hx hb hml hown hg (c_X2_read l dC dI cI cZ x hi _ _) cs_X2_13 rfl rfl ⟨Nat.le_of_ble_eq_true rfl, Nat.le_of_ble_eq_true rfl⟩ hK hP hS (q0 := 1) rfl rfl rfl hl.1 rfl (Nat.le_of_ble_eq_true rfl) dX2_pair_2 ⟨Nat.zero_le _, Nat.zero_le _⟩ (fun H locs hP hS => ?_)
  refine lv_sipush (v := 256) hx hb dX2_pair_5 (by decide) ?_
  refine lv_imul hx hb dX2_pair_8 ?_
  refine lv_aload_n hx hb dX2_pair_9 rfl (lv_at hl 0 rfl) ?_
  refine lv_iload_n hx hb dX2_pair_10 rfl (lv_at hl 1 rfl) ?_
  refine lv_iconst (v := 1) hx hb dX2_pair_11 (by decide) ?_
  refine lv_iadd hx hb dX2_pair_12 ?_
  refine g_Vi hx hb hml hown hg (c_X2_read l dC dI cI cZ x hi _ _) cs_X2_13 rfl rfl ⟨Nat.le_of_ble_eq_true rfl, Nat.le_of_ble_eq_true rfl⟩ hK hP hS (q0 := 1) rfl rfl rfl hl.1 rfl (Nat.le_of_ble_eq_true rfl) dX2_pair_13 ⟨Nat.zero_le _, Nat.zero_le _⟩ (fun H locs hP hS => ?_)
  refine lv_iadd hx hb dX2_pair_16 ?_
  exact g_iret hx hb hr hlocks hP hS dX2_pair_17 hF rfl
