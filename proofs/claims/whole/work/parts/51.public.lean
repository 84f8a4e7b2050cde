def f_X6_poke (u : BS) (p0 : Int32) (p1 : Int32) : Option String × Int32 × BS :=
  if p0 < 0 then
    (some x_IAE, 0, u)
  else
    if p0 ≤ 2047 then
      if p1 < 0 then
        (some x_IAE, 0, u)
      else
        if p1 ≤ 255 then
          let r1 : BS := f_X2_write u p0 p1
          (none, 0, r1)
        else
          (some x_IAE, 0, u)
    else
      (some x_IAE, 0, u)
set_option maxHeartbeats 4000000 in
set_option maxRecDepth 100000 in
theorem c_X6_poke (l : Launch) (hst : l.stackTraces = false) (dC : Nat → ClassId) (dI : Nat → Nat → Nat) (cI cZ : ClassId) (x : Nat → Nat) (hi : g_inj 13 x) (sa : Nat → Nat) (u : BS) (p0 : Int32) (p1 : Int32) : g_Xv l yX6_poke (.code yX6_poke cX6_poke 3 none) { frames := 6, cells := 1, slots := 6, locals := 90 } (dC, dI) vwCl (tysW cI cZ) (wB x cI cZ) (g_bA 13 x) sa u [.ref (x 0), .int p0, .int p1] (f_X6_poke u p0 p1) := by
  refine vx_ofW (cc := cX6_poke) (maxL := 3) (ret := none) (by decide) rfl ?_
  intro p e s m args below meth c s₁ B hml hout hv
  obtain ⟨rfl, hP, hK, hxe⟩ := hv
  have hx := B.exec
  have hb := B.bytes
  have hr := B.returns
  have hts := atoms_spec (ws := .code yX6_poke cX6_poke 3 none :: gtbl) B.pre
  have hg : ∀ w ∈ gtbl, w.before _ s = true := fun w h => hts w (List.mem_cons_of_mem _ h)
  have hown : s.vm.findClass RX6 = some m.cls := findClass_of_methodNamed B.named
  have hlocks := B.notSynchronized
  have hS : va_S (g_bA 13 x) s.heap s.heap [] := va_S.rf
  have hl := lv_entry ([.ref (x 0), .int p0, .int p1]) (n := 3) (Nat.le_of_ble_eq_true rfl)
  rw [lg_entry_eq]
  generalize (lg_sl ([.ref (x 0), .int p0, .int p1]) ++ List.replicate (3 - (lg_sl ([.ref (x 0), .int p0, .int p1])).length) Slot.unset).toArray = ls at hl ⊢
  have hl : lv_has ls 3 [(0, .ref (x 0)), (1, .int p0), (2, .int p1)] := hl
  obtain ⟨F, hF⟩ : ∃ F, f_X6_poke u p0 p1 = F := ⟨_, rfl⟩
  rw [hF]
  refine lv_iload_n hx hb dX6_poke_0 rfl (lv_at hl 1 rfl) ?_
  refine lv_if_lt (tgt := 11) hx hb dX6_poke_1 (by decide) (fun c1 => ?_) (fun c1 => ?_)
  · have hF := (if_pos c1).symm.trans hF
    exact gx_IAE (text := "address is not 0 .. 2047") hx hb hst hown hg hxe (by decide +kernel) hP hS (hl.1.trans hml.symm) dX6_poke_11 dX6_poke_14 dX6_poke_15 dX6_poke_17 dX6_poke_20 hout (Nat.le_of_ble_eq_true rfl) (Nat.le_of_ble_eq_true rfl) (Nat.le_of_ble_eq_true rfl) (Nat.le_of_ble_eq_true rfl) hlocks hF
  · have hF := (if_neg c1).symm.trans hF
    refine lv_iload_n hx hb dX6_poke_4 rfl (lv_at hl 1 rfl) ?_
    refine lv_sipush (v := 2047) hx hb dX6_poke_5 (by decide) ?_
    refine lv_icmp_le (tgt := 21) hx hb dX6_poke_8 (by decide) (fun c2 => ?_) (fun c2 => ?_)
    · have hF := (if_pos c2).symm.trans hF
      refine lv_iload_n hx hb dX6_poke_21 rfl (lv_at hl 2 rfl) ?_
      refine lv_if_lt (tgt := 32) hx hb dX6_poke_22 (by decide) (fun c3 => ?_) (fun c3 => ?_)
      · have hF := (if_pos c3).symm.trans hF
        exact gx_IAE (text := "v is not 0 .. 255") hx hb hst hown hg hxe (by decide +kernel) hP hS (hl.1.trans hml.symm) dX6_poke_32 dX6_poke_35 dX6_poke_36 dX6_poke_38 dX6_poke_41 hout (Nat.le_of_ble_eq_true rfl) (Nat.le_of_ble_eq_true rfl) (Nat.le_of_ble_eq_true rfl) (Nat.le_of_ble_eq_true rfl) hlocks hF
      · have hF := (if_neg c3).symm.trans hF
        refine lv_iload_n hx hb dX6_poke_25 rfl (lv_at hl 2 rfl) ?_
        refine lv_sipush (v := 255) hx hb dX6_poke_26 (by decide) ?_
        refine lv_icmp_le (tgt := 42) hx hb dX6_poke_29 (by decide) (fun c4 => ?_) (fun c4 => ?_)
        · have hF := (if_pos c4).symm.trans hF
          refine lv_aload_n hx hb dX6_poke_42 rfl (lv_at hl 0 rfl) ?_
          refine ge_X6_memory hx hb hg hown kf_X6_10 hK hP dX6_poke_43 ?_
          refine lv_iload_n hx hb dX6_poke_46 rfl (lv_at hl 1 rfl) ?_
          refine lv_iload_n hx hb dX6_poke_47 rfl (lv_at hl 2 rfl) ?_
          refine g_Vv hx hb hml hown hg (c_X2_write l dC dI cI cZ x hi _ _ _) cs_X6_66 rfl rfl ⟨Nat.le_of_ble_eq_true rfl, Nat.le_of_ble_eq_true rfl⟩ hK hP hS (q0 := 1) rfl rfl rfl hl.1 rfl (Nat.le_of_ble_eq_true rfl) dX6_poke_48 ⟨Nat.zero_le _, Nat.zero_le _⟩ (fun H locs hP hS => ?_)
          exact gx_vret hx hb hr hlocks hP hS dX6_poke_51 hF
        · have hF := (if_neg c4).symm.trans hF
          exact gx_IAE (text := "v is not 0 .. 255") hx hb hst hown hg hxe (by decide +kernel) hP hS (hl.1.trans hml.symm) dX6_poke_32 dX6_poke_35 dX6_poke_36 dX6_poke_38 dX6_poke_41 hout (Nat.le_of_ble_eq_true rfl) (Nat.le_of_ble_eq_true rfl) (Nat.le_of_ble_eq_true rfl) (Nat.le_of_ble_eq_true rfl) hlocks hF
    · have hF := (if_neg c2).symm.trans hF
      exact gx_IAE (text := "address is not 0 .. 2047") hx hb hst hown hg hxe (by decide +kernel) hP hS (hl.1.trans hml.symm) dX6_poke_11 dX6_poke_14 dX6_poke_15 dX6_poke_17 dX6_poke_20 hout (Nat.le_of_ble_eq_true rfl) (Nat.le_of_ble_eq_true rfl) (Nat.le_of_ble_eq_true rfl) (Nat.le_of_ble_eq_true rfl) hlocks hF
def f_X6_cpu (u : BS) (p0 : Int32) : Option String × Int32 × BS :=
  if p0 < 0 then
    (some x_NSE, 0, u)
  else
    if p0 ≤ 23 then
      (none, (f_X4_part u p0), u)
    else
      (some x_NSE, 0, u)
set_option maxHeartbeats 4000000 in
set_option maxRecDepth 100000 in
theorem c_X6_cpu (l : Launch) (hst : l.stackTraces = false) (dC : Nat → ClassId) (dI : Nat → Nat → Nat) (cI cZ : ClassId) (x : Nat → Nat) (hi : g_inj 13 x) (sa : Nat → Nat) (u : BS) (p0 : Int32) : g_Xi l yX6_cpu (.code yX6_cpu cX6_cpu 2 (some .int)) { frames := 6, cells := 1, slots := 6, locals := 90 } (dC, dI) vwCl (tysW cI cZ) (wB x cI cZ) (g_bA 13 x) sa u [.ref (x 0), .int p0] (f_X6_cpu u p0) := by
  refine vx_ofW (cc := cX6_cpu) (maxL := 2) (ret := (some .int)) (by decide) rfl ?_
  intro p e s m args below meth c s₁ B hml hout hv
  obtain ⟨rfl, hP, hK, hxe⟩ := hv
  have hx := B.exec
  have hb := B.bytes
  have hr := B.returns
  have hts := atoms_spec (ws := .code yX6_cpu cX6_cpu 2 (some .int) :: gtbl) B.pre
  have hg : ∀ w ∈ gtbl, w.before _ s = true := fun w h => hts w (List.mem_cons_of_mem _ h)
  have hown : s.vm.findClass RX6 = some m.cls := findClass_of_methodNamed B.named
  have hlocks := B.notSynchronized
  have hS : va_S (g_bA 13 x) s.heap s.heap [] := va_S.rf
  have hl := lv_entry ([.ref (x 0), .int p0]) (n := 2) (Nat.le_of_ble_eq_true rfl)
  rw [lg_entry_eq]
  generalize (lg_sl ([.ref (x 0), .int p0]) ++ List.replicate (2 - (lg_sl ([.ref (x 0), .int p0])).length) Slot.unset).toArray = ls at hl ⊢
  have hl : lv_has ls 2 [(0, .ref (x 0)), (1, .int p0)] := hl
  obtain ⟨F, hF⟩ : ∃ F, f_X6_cpu u p0 = F := ⟨_, rfl⟩
  rw [hF]
  refine lv_iload_n hx hb dX6_cpu_0 rfl (lv_at hl 1 rfl) ?_
  refine lv_if_lt (tgt := 10) hx hb dX6_cpu_1 (by decide) (fun c1 => ?_) (fun c1 => ?_)
  · have hF := (if_pos c1).symm.trans hF
    exact gx_NSE (text := "what is not 0 .. 23") hx hb hst hown hg hxe (by decide +kernel) hP hS (hl.1.trans hml.symm) dX6_cpu_10 dX6_cpu_13 dX6_cpu_14 dX6_cpu_16 dX6_cpu_19 hout (Nat.le_of_ble_eq_true rfl) (Nat.le_of_ble_eq_true rfl) (Nat.le_of_ble_eq_true rfl) (Nat.le_of_ble_eq_true rfl) hlocks hF
  · have hF := (if_neg c1).symm.trans hF
    refine lv_iload_n hx hb dX6_cpu_4 rfl (lv_at hl 1 rfl) ?_
    refine lv_bipush (v := 23) hx hb dX6_cpu_5 (by decide) ?_
    refine lv_icmp_le (tgt := 20) hx hb dX6_cpu_7 (by decide) (fun c2 => ?_) (fun c2 => ?_)
    · have hF := (if_pos c2).symm.trans hF
      refine lv_aload_n hx hb dX6_cpu_20 rfl (lv_at hl 0 rfl) ?_
      refine ge_X6_processor hx hb hg hown kf_X6_44 hK hP dX6_cpu_21 ?_
      refine lv_iload_n hx hb dX6_cpu_24 rfl (lv_at hl 1 rfl) ?_
      refine g_Vi hx hb hml hown hg (c_X4_part l dC dI cI cZ x hi _ _) cs_X6_79 rfl rfl ⟨Nat.le_of_ble_eq_true rfl, Nat.le_of_ble_eq_true rfl⟩ hK hP hS (q0 := 8) rfl rfl rfl hl.1 rfl (Nat.le_of_ble_eq_true rfl) dX6_cpu_25 ⟨Nat.zero_le _, Nat.zero_le _⟩ (fun H locs hP hS => ?_)
      exact gx_iret hx hb hr hlocks hP hS dX6_cpu_28 hF
    · have hF := (if_neg c2).symm.trans hF
      exact gx_NSE (text := "what is not 0 .. 23") hx hb hst hown hg hxe (by decide +kernel) hP hS (hl.1.trans hml.symm) dX6_cpu_10 dX6_cpu_13 dX6_cpu_14 dX6_cpu_16 dX6_cpu_19 hout (Nat.le_of_ble_eq_true rfl) (Nat.le_of_ble_eq_true rfl) (Nat.le_of_ble_eq_true rfl) (Nat.le_of_ble_eq_true rfl) hlocks hF
def f_X6_set (u : BS) (p0 : Int32) (p1 : Int32) : Option String × Int32 × BS :=
  if p0 < 0 then
    (some x_IAE, 0, u)
  else
    if p0 < 23 then
      if p1 < 0 then
        (some x_IAE, 0, u)
      else
        if p1 ≤ (f_X4_mostOf u p0) then
          let r1 : BS := f_X4_change u p0 p1
          (none, 0, r1)
        else
          (some x_IAE, 0, u)
    else
      (some x_IAE, 0, u)
set_option maxHeartbeats 4000000 in
set_option maxRecDepth 100000 in
theorem c_X6_set (l : Launch) (hst : l.stackTraces = false) (dC : Nat → ClassId) (dI : Nat → Nat → Nat) (cI cZ : ClassId) (x : Nat → Nat) (hi : g_inj 13 x) (sa : Nat → Nat) (u : BS) (p0 : Int32) (p1 : Int32) : g_Xv l yX6_set (.code yX6_set cX6_set 3 none) { frames := 6, cells := 1, slots := 6, locals := 90 } (dC, dI) vwCl (tysW cI cZ) (wB x cI cZ) (g_bA 13 x) sa u [.ref (x 0), .int p0, .int p1] (f_X6_set u p0 p1) := by
  refine vx_ofW (cc := cX6_set) (maxL := 3) (ret := none) (by decide) rfl ?_
  intro p e s m args below meth c s₁ B hml hout hv
  obtain ⟨rfl, hP, hK, hxe⟩ := hv
  have hx := B.exec
  have hb := B.bytes
  have hr := B.returns
  have hts := atoms_spec (ws := .code yX6_set cX6_set 3 none :: gtbl) B.pre
  have hg : ∀ w ∈ gtbl, w.before _ s = true := fun w h => hts w (List.mem_cons_of_mem _ h)
  have hown : s.vm.findClass RX6 = some m.cls := findClass_of_methodNamed B.named
  have hlocks := B.notSynchronized
  have hS : va_S (g_bA 13 x) s.heap s.heap [] := va_S.rf
  have hl := lv_entry ([.ref (x 0), .int p0, .int p1]) (n := 3) (Nat.le_of_ble_eq_true rfl)
  rw [lg_entry_eq]
  generalize (lg_sl ([.ref (x 0), .int p0, .int p1]) ++ List.replicate (3 - (lg_sl ([.ref (x 0), .int p0, .int p1])).length) Slot.unset).toArray = ls at hl ⊢
  have hl : lv_has ls 3 [(0, .ref (x 0)), (1, .int p0), (2, .int p1)] := hl
  obtain ⟨F, hF⟩ : ∃ F, f_X6_set u p0 p1 = F := ⟨_, rfl⟩
  rw [hF]
  refine lv_iload_n hx hb dX6_set_0 rfl (lv_at hl 1 rfl) ?_
  refine lv_if_lt (tgt := 10) hx hb dX6_set_1 (by decide) (fun c1 => ?_) (fun c1 => ?_)
  · have hF := (if_pos c1).symm.trans hF
    exact gx_IAE (text := "what is not 0 .. 22") hx hb hst hown hg hxe (by decide +kernel) hP hS (hl.1.trans hml.symm) dX6_set_10 dX6_set_13 dX6_set_14 dX6_set_16 dX6_set_19 hout (Nat.le_of_ble_eq_true rfl) (Nat.le_of_ble_eq_true rfl) (Nat.le_of_ble_eq_true rfl) (Nat.le_of_ble_eq_true rfl) hlocks hF
  · have hF := (if_neg c1).symm.trans hF
    refine lv_iload_n hx hb dX6_set_4 rfl (lv_at hl 1 rfl) ?_
    refine lv_bipush (v := 23) hx hb dX6_set_5 (by decide) ?_
    refine lv_icmp_lt (tgt := 20) hx hb dX6_set_7 (by decide) (fun c2 => ?_) (fun c2 => ?_)
    · have hF := (if_pos c2).symm.trans hF
      refine lv_iload_n hx hb dX6_set_20 rfl (lv_at hl 2 rfl) ?_
      refine lv_if_lt (tgt := 32) hx hb dX6_set_21 (by decide) (fun c3 => ?_) (fun c3 => ?_)
      · have hF := (if_pos c3).symm.trans hF
        exact gx_IAE (text := "v is not of the kind of what") hx hb hst hown hg hxe (by decide +kernel) hP hS (hl.1.trans hml.symm) dX6_set_32 dX6_set_35 dX6_set_36 dX6_set_38 dX6_set_41 hout (Nat.le_of_ble_eq_true rfl) (Nat.le_of_ble_eq_true rfl) (Nat.le_of_ble_eq_true rfl) (Nat.le_of_ble_eq_true rfl) hlocks hF
      · have hF := (if_neg c3).symm.trans hF
        refine lv_iload_n hx hb dX6_set_24 rfl (lv_at hl 2 rfl) ?_
        refine lv_iload_n hx hb dX6_set_25 rfl (lv_at hl 1 rfl) ?_
        refine g_Si hx hb hml hown hg (c_X4_mostOf l dC dI cI cZ x hi _ _) cs_X6_84 rfl rfl ⟨Nat.le_of_ble_eq_true rfl, Nat.le_of_ble_eq_true rfl⟩ hK hP hS rfl hl.1 rfl (Nat.le_of_ble_eq_true rfl) dX6_set_26 ⟨Nat.zero_le _, Nat.zero_le _⟩ (fun H locs hP hS => ?_)
        refine lv_icmp_le (tgt := 42) hx hb dX6_set_29 (by decide) (fun c4 => ?_) (fun c4 => ?_)
        · have hF := (if_pos c4).symm.trans hF
          refine lv_aload_n hx hb dX6_set_42 rfl (lv_at hl 0 rfl) ?_
          refine ge_X6_processor hx hb hg hown kf_X6_44 hK hP dX6_set_43 ?_
          refine lv_iload_n hx hb dX6_set_46 rfl (lv_at hl 1 rfl) ?_
          refine lv_iload_n hx hb dX6_set_47 rfl (lv_at hl 2 rfl) ?_
          refine g_Vv hx hb hml hown hg (c_X4_change l dC dI cI cZ x hi _ _ _) cs_X6_89 rfl rfl ⟨Nat.le_of_ble_eq_true rfl, Nat.le_of_ble_eq_true rfl⟩ hK hP hS (q0 := 8) rfl rfl rfl hl.1 rfl (Nat.le_of_ble_eq_true rfl) dX6_set_48 ⟨Nat.zero_le _, Nat.zero_le _⟩ (fun H locs hP hS => ?_)
          exact gx_vret hx hb hr hlocks hP hS dX6_set_51 hF
        · have hF := (if_neg c4).symm.trans hF
          exact gx_IAE (text := "v is not of the kind of what") hx hb hst hown hg hxe (by decide +kernel) hP hS (hl.1.trans hml.symm) dX6_set_32 dX6_set_35 dX6_set_36 dX6_set_38 dX6_set_41 hout (Nat.le_of_ble_eq_true rfl) (Nat.le_of_ble_eq_true rfl) (Nat.le_of_ble_eq_true rfl) (Nat.le_of_ble_eq_true rfl) hlocks hF
    · have hF := (if_neg c2).symm.trans hF
      exact gx_IAE (text := "what is not 0 .. 22") hx hb hst hown hg hxe (by decide +kernel) hP hS (hl.1.trans hml.symm) dX6_set_10 dX6_set_13 dX6_set_14 dX6_set_16 dX6_set_19 hout (Nat.le_of_ble_eq_true rfl) (Nat.le_of_ble_eq_true rfl) (Nat.le_of_ble_eq_true rfl) (Nat.le_of_ble_eq_true rfl) hlocks hF
def f_X6_key (u : BS) (p0 : Int32) (p1 : Int32) : Option String × Int32 × BS :=
  if p0 < 0 then
    (some x_IAE, 0, u)
  else
    if p0 ≤ 15 then
      let r1 : BS := f_X0_move u p0 p1
      (none, 0, r1)
    else
      (some x_IAE, 0, u)
set_option maxHeartbeats 4000000 in
set_option maxRecDepth 100000 in
theorem c_X6_key (l : Launch) (hst : l.stackTraces = false) (dC : Nat → ClassId) (dI : Nat → Nat → Nat) (cI cZ : ClassId) (x : Nat → Nat) (hi : g_inj 13 x) (sa : Nat → Nat) (u : BS) (p0 : Int32) (p1 : Int32) : g_Xv l yX6_key (.code yX6_key cX6_key 3 none) { frames := 6, cells := 1, slots := 6, locals := 90 } (dC, dI) vwCl (tysW cI cZ) (wB x cI cZ) (g_bA 13 x) sa u [.ref (x 0), .int p0, .int p1] (f_X6_key u p0 p1) := by
  refine vx_ofW (cc := cX6_key) (maxL := 3) (ret := none) (by decide) rfl ?_
  intro p e s m args below meth c s₁ B hml hout hv
  obtain ⟨rfl, hP, hK, hxe⟩ := hv
  have hx := B.exec
  have hb := B.bytes
  have hr := B.returns
  have hts := atoms_spec (ws := .code yX6_key cX6_key 3 none :: gtbl) B.pre
  have hg : ∀ w ∈ gtbl, w.before _ s = true := fun w h => hts w (List.mem_cons_of_mem _ h)
  have hown : s.vm.findClass RX6 = some m.cls := findClass_of_methodNamed B.named
  have hlocks := B.notSynchronized
  have hS : va_S (g_bA 13 x) s.heap s.heap [] := va_S.rf
  have hl := lv_entry ([.ref (x 0), .int p0, .int p1]) (n := 3) (Nat.le_of_ble_eq_true rfl)
  rw [lg_entry_eq]
  generalize (lg_sl ([.ref (x 0), .int p0, .int p1]) ++ List.replicate (3 - (lg_sl ([.ref (x 0), .int p0, .int p1])).length) Slot.unset).toArray = ls at hl ⊢
  have hl : lv_has ls 3 [(0, .ref (x 0)), (1, .int p0), (2, .int p1)] := hl
  obtain ⟨F, hF⟩ : ∃ F, f_X6_key u p0 p1 = F := ⟨_, rfl⟩
  rw [hF]
  refine lv_iload_n hx hb dX6_key_0 rfl (lv_at hl 1 rfl) ?_
  refine lv_if_lt (tgt := 10) hx hb dX6_key_1 (by decide) (fun c1 => ?_) (fun c1 => ?_)
  · have hF := (if_pos c1).symm.trans hF
    exact gx_IAE (text := "k is not 0 .. 15") hx hb hst hown hg hxe (by decide +kernel) hP hS (hl.1.trans hml.symm) dX6_key_10 dX6_key_13 dX6_key_14 dX6_key_16 dX6_key_19 hout (Nat.le_of_ble_eq_true rfl) (Nat.le_of_ble_eq_true rfl) (Nat.le_of_ble_eq_true rfl) (Nat.le_of_ble_eq_true rfl) hlocks hF
  · have hF := (if_neg c1).symm.trans hF
    refine lv_iload_n hx hb dX6_key_4 rfl (lv_at hl 1 rfl) ?_
    refine lv_bipush (v := 15) hx hb dX6_key_5 (by decide) ?_
    refine lv_icmp_le (tgt := 20) hx hb dX6_key_7 (by decide) (fun c2 => ?_) (fun c2 => ?_)
    · have hF := (if_pos c2).symm.trans hF
      refine lv_aload_n hx hb dX6_key_20 rfl (lv_at hl 0 rfl) ?_
      refine ge_X6_keys hx hb hg hown kf_X6_19 hK hP dX6_key_21 ?_
      refine lv_iload_n hx hb dX6_key_24 rfl (lv_at hl 1 rfl) ?_
      refine lv_iload_n hx hb dX6_key_25 rfl (lv_at hl 2 rfl) ?_
      refine g_Vv hx hb hml hown hg (c_X0_move l dC dI cI cZ x hi _ _ _) cs_X6_94 rfl rfl ⟨Nat.le_of_ble_eq_true rfl, Nat.le_of_ble_eq_true rfl⟩ hK hP hS (q0 := 3) rfl rfl rfl hl.1 rfl (Nat.le_of_ble_eq_true rfl) dX6_key_26 ⟨Nat.zero_le _, Nat.zero_le _⟩ (fun H locs hP hS => ?_)
      exact gx_vret hx hb hr hlocks hP hS dX6_key_29 hF
    · have hF := (if_neg c2).symm.trans hF
      exact gx_IAE (text := "k is not 0 .. 15") hx hb hst hown hg hxe (by decide +kernel) hP hS (hl.1.trans hml.symm) dX6_key_10 dX6_key_13 dX6_key_14 dX6_key_16 dX6_key_19 hout (Nat.le_of_ble_eq_true rfl) (Nat.le_of_ble_eq_true rfl) (Nat.le_of_ble_eq_true rfl) (Nat.le_of_ble_eq_true rfl) hlocks hF
def f_X6_run_L : Nat → BS → Int32 → Int32 → Int32 → Option String × Int32 × BS
  | 0, u, _, _, _ => (none, 0, u)
  | n + 1, u, a1, a2, a3 =>
    if a1 ≤ a3 then
      (none, a2, u)
    else
      if a1 ≤ a2 then
        (none, a2, u)
      else
        let r1 : Int32 × BS := f_X4_act u
        let t2 : Int32 := r1.1
        let r3 : BS := f_X3_pass r1.2 t2
        let r4 : Int32 × BS := f_X6_letVideoAct r3
        let t5 : Int32 := (a2 + (t2 + r4.1))
        let t6 : Int32 := a3 + Int32.ofInt 1
        f_X6_run_L n r4.2 a1 t5 t6
def ok_X6_run_L : Nat → BS → Int32 → Int32 → Int32 → Prop
  | 0, _, _, _, _ => False
  | n + 1, u, a1, a2, a3 =>
    if a1 ≤ a3 then
      True
    else
      if a1 ≤ a2 then
        True
      else
        ok_X4_act u ∧
        let r1 : Int32 × BS := f_X4_act u
        let t2 : Int32 := r1.1
        let r3 : BS := f_X3_pass r1.2 t2
        ok_X6_letVideoAct r3 ∧
        let r4 : Int32 × BS := f_X6_letVideoAct r3
        let t5 : Int32 := (a2 + (t2 + r4.1))
        let t6 : Int32 := a3 + Int32.ofInt 1
        ok_X6_run_L n r4.2 a1 t5 t6
def f_X6_run (u : BS) (p0 : Int32) : Option String × Int32 × BS :=
  if p0 < 1 then
    (some x_IAE, 0, u)
  else
    if p0 ≤ 4000 then
      f_X6_run_L 4001 u p0 0 0
    else
      (some x_IAE, 0, u)
def ok_X6_run (u : BS) (p0 : Int32) : Prop :=
  if p0 < 1 then
    True
  else
    if p0 ≤ 4000 then
      ok_X6_run_L 4001 u p0 0 0
    else
      True
set_option maxHeartbeats 4000000 in
set_option maxRecDepth 100000 in
theorem c_X6_run (l : Launch) (hst : l.stackTraces = false) (dC : Nat → ClassId) (dI : Nat → Nat → Nat) (cI cZ : ClassId) (x : Nat → Nat) (hi : g_inj 13 x) (sa : Nat → Nat) (u : BS) (p0 : Int32) (hok : ok_X6_run u p0) : g_Xi l yX6_run (.code yX6_run cX6_run 5 (some .int)) { frames := 6, cells := 1, slots := 6, locals := 129 } (dC, dI) vwCl (tysW cI cZ) (wB x cI cZ) (g_bA 13 x) sa u [.ref (x 0), .int p0] (f_X6_run u p0) := by
  refine vx_ofW (cc := cX6_run) (maxL := 5) (ret := (some .int)) (by decide) rfl ?_
  intro p e s m args below meth c s₁ B hml hout hv
  obtain ⟨rfl, hP, hK, hxe⟩ := hv
  have hx := B.exec
  have hb := B.bytes
  have hr := B.returns
  have hts := atoms_spec (ws := .code yX6_run cX6_run 5 (some .int) :: gtbl) B.pre
  have hg : ∀ w ∈ gtbl, w.before _ s = true := fun w h => hts w (List.mem_cons_of_mem _ h)
  have hown : s.vm.findClass RX6 = some m.cls := findClass_of_methodNamed B.named
  have hlocks := B.notSynchronized
  have hS : va_S (g_bA 13 x) s.heap s.heap [] := va_S.rf
  have hl := lv_entry ([.ref (x 0), .int p0]) (n := 5) (Nat.le_of_ble_eq_true rfl)
  rw [lg_entry_eq]
  generalize (lg_sl ([.ref (x 0), .int p0]) ++ List.replicate (5 - (lg_sl ([.ref (x 0), .int p0])).length) Slot.unset).toArray = ls at hl ⊢
  have hl : lv_has ls 5 [(0, .ref (x 0)), (1, .int p0)] := hl
  obtain ⟨F, hF⟩ : ∃ F, f_X6_run u p0 = F := ⟨_, rfl⟩
  rw [hF]
  have loop : ∀ (n : Nat), (∀ (u : BS) (a1 : Int32) (a2 : Int32) (a3 : Int32) (H : Heap) (locs : List Loc) (ls : Array Slot), f_X6_run_L n u a1 a2 a3 = F → ok_X6_run_L n u a1 a2 a3 → va_P (dC, dI) vwCl (wB x cI cZ u) H → va_S (g_bA 13 x) s.heap H locs → lv_has ls 5 [(0, .ref (x 0)), (1, .int a1), (2, .int a2), (3, .int a3)] → W p l e (headSpec (.code yX6_run cX6_run 5 (some .int) :: gtbl) { frames := 6, cells := 1, slots := 6, locals := 129 }).room s m ([.ref (x 0), .int p0] : List Value).toArray below meth c H locs 0 0 (vx_MQ below (g_Qxi (dC, dI) vwCl (wB x cI cZ) (g_bA 13 x) F) (g_Qxx (dC, dI) vwCl (wB x cI cZ) (g_bA 13 x) F) ([.ref (x 0), .int p0] : List Value).toArray s 1 6 (g_bA 13 x)) (F0 m 26 ls [])) := by
    intro n
    induction n with
    | zero => intro u a1 a2 a3 H locs ls hF hok; exact hok.elim
    | succ n ih =>
      intro u a1 a2 a3 H locs ls hF hok hP hS hl
      refine lv_iload_n hx hb dX6_run_26 rfl (lv_at hl 3 rfl) ?_
      refine lv_iload_n hx hb dX6_run_27 rfl (lv_at hl 1 rfl) ?_
      refine lv_icmp_ge (tgt := 70) hx hb dX6_run_28 (by decide) (fun c3 => ?_) (fun c3 => ?_)
      · have hF := (if_pos c3).symm.trans hF
        have hok := Eq.mp (if_pos c3) hok
        refine lv_iload_n hx hb dX6_run_70 rfl (lv_at hl 2 rfl) ?_
        exact gx_iret hx hb hr hlocks hP hS dX6_run_71 hF
      · have hF := (if_neg c3).symm.trans hF
        have hok := Eq.mp (if_neg c3) hok
        refine lv_iload_n hx hb dX6_run_31 rfl (lv_at hl 2 rfl) ?_
        refine lv_iload_n hx hb dX6_run_32 rfl (lv_at hl 1 rfl) ?_
        refine lv_icmp_ge (tgt := 70) hx hb dX6_run_33 (by decide) (fun c4 => ?_) (fun c4 => ?_)
        · have hF := (if_pos c4).symm.trans hF
          have hok := Eq.mp (if_pos c4) hok
          refine lv_iload_n hx hb dX6_run_70 rfl (lv_at hl 2 rfl) ?_
          exact gx_iret hx hb hr hlocks hP hS dX6_run_71 hF
        · have hF := (if_neg c4).symm.trans hF
          have hok := Eq.mp (if_neg c4) hok
          refine lv_aload_n hx hb dX6_run_36 rfl (lv_at hl 0 rfl) ?_
          refine ge_X6_processor hx hb hg hown kf_X6_44 hK hP dX6_run_37 ?_
          obtain ⟨c5, hok⟩ := hok
          refine g_Vi hx hb hml hown hg (c_X4_act l dC dI cI cZ x hi _ c5) cs_X6_100 rfl rfl ⟨Nat.le_of_ble_eq_true rfl, Nat.le_of_ble_eq_true rfl⟩ hK hP hS (q0 := 8) rfl rfl rfl hl.1 rfl (Nat.le_of_ble_eq_true rfl) dX6_run_40 ⟨Nat.zero_le _, Nat.zero_le _⟩ (fun H locs hP hS => ?_)
          refine lv_istore hx hb dX6_run_43 hl (by decide) rfl (fun ls hl => ?_)
          have hl : lv_has ls 5 [(4, _), (0, _), (1, _), (2, _), (3, _)] := hl
          refine lv_aload_n hx hb dX6_run_45 rfl (lv_at hl 1 rfl) ?_
          refine ge_X6_picture hx hb hg hown kf_X6_35 hK hP dX6_run_46 ?_
          refine lv_iload hx hb dX6_run_49 (lv_at hl 0 rfl) ?_
          refine g_Vv hx hb hml hown hg (c_X3_pass l dC dI cI cZ x hi _ _) cs_X6_104 rfl rfl ⟨Nat.le_of_ble_eq_true rfl, Nat.le_of_ble_eq_true rfl⟩ hK hP hS (q0 := 6) rfl rfl rfl hl.1 rfl (Nat.le_of_ble_eq_true rfl) dX6_run_51 ⟨Nat.zero_le _, Nat.zero_le _⟩ (fun H locs hP hS => ?_)
          refine lv_iload_n hx hb dX6_run_54 rfl (lv_at hl 3 rfl) ?_
          refine lv_iload hx hb dX6_run_55 (lv_at hl 0 rfl) ?_
          refine lv_aload_n hx hb dX6_run_57 rfl (lv_at hl 1 rfl) ?_
          obtain ⟨c6, hok⟩ := hok
          refine g_Vi hx hb hml hown hg (c_X6_letVideoAct l dC dI cI cZ x hi _ c6) cs_X6_108 rfl rfl ⟨Nat.le_of_ble_eq_true rfl, Nat.le_of_ble_eq_true rfl⟩ hK hP hS (q0 := 0) rfl rfl rfl hl.1 rfl (Nat.le_of_ble_eq_true rfl) dX6_run_58 ⟨Nat.zero_le _, Nat.zero_le _⟩ (fun H locs hP hS => ?_)
          refine lv_iadd hx hb dX6_run_61 ?_
          refine lv_iadd hx hb dX6_run_62 ?_
          refine lv_istore_n hx hb dX6_run_63 rfl hl (by decide) rfl (fun ls hl => ?_)
          have hl : lv_has ls 5 [(2, _), (4, _), (0, _), (1, _), (3, _)] := hl
          refine lv_iinc hx hb dX6_run_64 hl (k := 4) rfl rfl (by decide) rfl (fun ls hl => ?_)
          have hl : lv_has ls 5 [(3, _), (2, _), (4, _), (0, _), (1, _)] := hl
          refine lv_goto (tgt := 26) hx hb dX6_run_67 (by decide) ?_
          exact ih _ _ _ _ _ _ _ hF hok hP hS (lv_sub hl [3, 4, 1, 0] rfl)
  refine lv_iload_n hx hb dX6_run_0 rfl (lv_at hl 1 rfl) ?_
  refine lv_iconst (v := 1) hx hb dX6_run_1 (by decide) ?_
  refine lv_icmp_lt (tgt := 12) hx hb dX6_run_2 (by decide) (fun c1 => ?_) (fun c1 => ?_)
  · have hF := (if_pos c1).symm.trans hF
    have hok := Eq.mp (if_pos c1) hok
    exact gx_IAE (text := "n is not 1 .. 4000") hx hb hst hown hg hxe (by decide +kernel) hP hS (hl.1.trans hml.symm) dX6_run_12 dX6_run_15 dX6_run_16 dX6_run_18 dX6_run_21 hout (Nat.le_of_ble_eq_true rfl) (Nat.le_of_ble_eq_true rfl) (Nat.le_of_ble_eq_true rfl) (Nat.le_of_ble_eq_true rfl) hlocks hF
  · have hF := (if_neg c1).symm.trans hF
    have hok := Eq.mp (if_neg c1) hok
    refine lv_iload_n hx hb dX6_run_5 rfl (lv_at hl 1 rfl) ?_
    refine lv_sipush (v := 4000) hx hb dX6_run_6 (by decide) ?_
    refine lv_icmp_le (tgt := 22) hx hb dX6_run_9 (by decide) (fun c2 => ?_) (fun c2 => ?_)
    · have hF := (if_pos c2).symm.trans hF
      have hok := Eq.mp (if_pos c2) hok
      refine lv_iconst (v := 0) hx hb dX6_run_22 (by decide) ?_
      refine lv_istore_n hx hb dX6_run_23 rfl hl (by decide) rfl (fun ls hl => ?_)
      have hl : lv_has ls 5 [(2, _), (0, _), (1, _)] := hl
      refine lv_iconst (v := 0) hx hb dX6_run_24 (by decide) ?_
      refine lv_istore_n hx hb dX6_run_25 rfl hl (by decide) rfl (fun ls hl => ?_)
      have hl : lv_has ls 5 [(3, _), (2, _), (0, _), (1, _)] := hl
      exact (loop 4001) _ _ _ _ _ _ _ hF hok hP hS (lv_sub hl [2, 3, 1, 0] rfl)
    · have hF := (if_neg c2).symm.trans hF
      have hok := Eq.mp (if_neg c2) hok
      exact gx_IAE (text := "n is not 1 .. 4000") hx hb hst hown hg hxe (by decide +kernel) hP hS (hl.1.trans hml.symm) dX6_run_12 dX6_run_15 dX6_run_16 dX6_run_18 dX6_run_21 hout (Nat.le_of_ble_eq_true rfl) (Nat.le_of_ble_eq_true rfl) (Nat.le_of_ble_eq_true rfl) (Nat.le_of_ble_eq_true rfl) hlocks hF
def f_X6_video (u : BS) (p0 : Int32) : Option String × Int32 × BS :=
  if p0 < 0 then
    (some x_NSE, 0, u)
  else
    if p0 ≤ 5 then
      if p0 = 5 then
        (none, (f_X0_asked u), u)
      else
        (none, (f_X3_part u p0), u)
    else
      (some x_NSE, 0, u)
set_option maxHeartbeats 4000000 in
set_option maxRecDepth 100000 in
theorem c_X6_video (l : Launch) (hst : l.stackTraces = false) (dC : Nat → ClassId) (dI : Nat → Nat → Nat) (cI cZ : ClassId) (x : Nat → Nat) (hi : g_inj 13 x) (sa : Nat → Nat) (u : BS) (p0 : Int32) : g_Xi l yX6_video (.code yX6_video cX6_video 2 (some .int)) { frames := 6, cells := 1, slots := 6, locals := 90 } (dC, dI) vwCl (tysW cI cZ) (wB x cI cZ) (g_bA 13 x) sa u [.ref (x 0), .int p0] (f_X6_video u p0) := by
  refine vx_ofW (cc := cX6_video) (maxL := 2) (ret := (some .int)) (by decide) rfl ?_
  intro p e s m args below meth c s₁ B hml hout hv
  obtain ⟨rfl, hP, hK, hxe⟩ := hv
  have hx := B.exec
  have hb := B.bytes
  have hr := B.returns
  have hts := atoms_spec (ws := .code yX6_video cX6_video 2 (some .int) :: gtbl) B.pre
  have hg : ∀ w ∈ gtbl, w.before _ s = true := fun w h => hts w (List.mem_cons_of_mem _ h)
  have hown : s.vm.findClass RX6 = some m.cls := findClass_of_methodNamed B.named
  have hlocks := B.notSynchronized
  have hS : va_S (g_bA 13 x) s.heap s.heap [] := va_S.rf
  have hl := lv_entry ([.ref (x 0), .int p0]) (n := 2) (Nat.le_of_ble_eq_true rfl)
  rw [lg_entry_eq]
  generalize (lg_sl ([.ref (x 0), .int p0]) ++ List.replicate (2 - (lg_sl ([.ref (x 0), .int p0])).length) Slot.unset).toArray = ls at hl ⊢
  have hl : lv_has ls 2 [(0, .ref (x 0)), (1, .int p0)] := hl
  obtain ⟨F, hF⟩ : ∃ F, f_X6_video u p0 = F := ⟨_, rfl⟩
  rw [hF]
  refine lv_iload_n hx hb dX6_video_0 rfl (lv_at hl 1 rfl) ?_
  refine lv_if_lt (tgt := 9) hx hb dX6_video_1 (by decide) (fun c1 => ?_) (fun c1 => ?_)
  · have hF := (if_pos c1).symm.trans hF
    exact gx_NSE (text := "what is not 0 .. 5") hx hb hst hown hg hxe (by decide +kernel) hP hS (hl.1.trans hml.symm) dX6_video_9 dX6_video_12 dX6_video_13 dX6_video_15 dX6_video_18 hout (Nat.le_of_ble_eq_true rfl) (Nat.le_of_ble_eq_true rfl) (Nat.le_of_ble_eq_true rfl) (Nat.le_of_ble_eq_true rfl) hlocks hF
  · have hF := (if_neg c1).symm.trans hF
    refine lv_iload_n hx hb dX6_video_4 rfl (lv_at hl 1 rfl) ?_
    refine lv_iconst (v := 5) hx hb dX6_video_5 (by decide) ?_
    refine lv_icmp_le (tgt := 19) hx hb dX6_video_6 (by decide) (fun c2 => ?_) (fun c2 => ?_)
    · have hF := (if_pos c2).symm.trans hF
      refine lv_iload_n hx hb dX6_video_19 rfl (lv_at hl 1 rfl) ?_
      refine lv_iconst (v := 5) hx hb dX6_video_20 (by decide) ?_
      refine lv_icmp_ne (tgt := 34) hx hb dX6_video_21 (by decide) (fun c3 => ?_) (fun c3 => ?_)
      · have hF := (if_neg c3).symm.trans hF
        refine lv_aload_n hx hb dX6_video_34 rfl (lv_at hl 0 rfl) ?_
        refine ge_X6_picture hx hb hg hown kf_X6_35 hK hP dX6_video_35 ?_
        refine lv_iload_n hx hb dX6_video_38 rfl (lv_at hl 1 rfl) ?_
        refine g_Vi hx hb hml hown hg (c_X3_part l dC dI cI cZ x hi _ _) cs_X6_116 rfl rfl ⟨Nat.le_of_ble_eq_true rfl, Nat.le_of_ble_eq_true rfl⟩ hK hP hS (q0 := 6) rfl rfl rfl hl.1 rfl (Nat.le_of_ble_eq_true rfl) dX6_video_39 ⟨Nat.zero_le _, Nat.zero_le _⟩ (fun H locs hP hS => ?_)
        exact gx_iret hx hb hr hlocks hP hS dX6_video_42 hF
      · have hF := (if_pos c3).symm.trans hF
        refine lv_aload_n hx hb dX6_video_24 rfl (lv_at hl 0 rfl) ?_
        refine ge_X6_keys hx hb hg hown kf_X6_19 hK hP dX6_video_25 ?_
        refine g_Vi hx hb hml hown hg (c_X0_asked l dC dI cI cZ x hi _) cs_X6_113 rfl rfl ⟨Nat.le_of_ble_eq_true rfl, Nat.le_of_ble_eq_true rfl⟩ hK hP hS (q0 := 3) rfl rfl rfl hl.1 rfl (Nat.le_of_ble_eq_true rfl) dX6_video_28 ⟨Nat.zero_le _, Nat.zero_le _⟩ (fun H locs hP hS => ?_)
        refine lv_goto (tgt := 42) hx hb dX6_video_31 (by decide) ?_
        exact gx_iret hx hb hr hlocks hP hS dX6_video_42 hF
    · have hF := (if_neg c2).symm.trans hF
      exact gx_NSE (text := "what is not 0 .. 5") hx hb hst hown hg hxe (by decide +kernel) hP hS (hl.1.trans hml.symm) dX6_video_9 dX6_video_12 dX6_video_13 dX6_video_15 dX6_video_18 hout (Nat.le_of_ble_eq_true rfl) (Nat.le_of_ble_eq_true rfl) (Nat.le_of_ble_eq_true rfl) (Nat.le_of_ble_eq_true rfl) hlocks hF
def f_X6_shown (u : BS) (p0 : Int32) (p1 : Int32) : Option String × Int32 × BS :=
  if p0 < 0 then
    (some x_NSE, 0, u)
  else
    if p0 < 128 then
      if p1 < 0 then
        (some x_NSE, 0, u)
      else
        if p1 < 8 then
          (none, (f_X3_fetchedByte u p0 p1), u)
        else
          (some x_NSE, 0, u)
    else
      (some x_NSE, 0, u)
def ok_X6_shown (u : BS) (p0 : Int32) (p1 : Int32) : Prop :=
  if p0 < 0 then
    True
  else
    if p0 < 128 then
      if p1 < 0 then
        True
      else
        if p1 < 8 then
          ok_X3_fetchedByte u p0 p1 ∧
          True
        else
          True
    else
      True
set_option maxHeartbeats 4000000 in
set_option maxRecDepth 100000 in
theorem c_X6_shown (l : Launch) (hst : l.stackTraces = false) (dC : Nat → ClassId) (dI : Nat → Nat → Nat) (cI cZ : ClassId) (x : Nat → Nat) (hi : g_inj 13 x) (sa : Nat → Nat) (u : BS) (p0 : Int32) (p1 : Int32) (hok : ok_X6_shown u p0 p1) : g_Xi l yX6_shown (.code yX6_shown cX6_shown 3 (some .int)) { frames := 6, cells := 1, slots := 6, locals := 90 } (dC, dI) vwCl (tysW cI cZ) (wB x cI cZ) (g_bA 13 x) sa u [.ref (x 0), .int p0, .int p1] (f_X6_shown u p0 p1) := by
  refine vx_ofW (cc := cX6_shown) (maxL := 3) (ret := (some .int)) (by decide) rfl ?_
  intro p e s m args below meth c s₁ B hml hout hv
  obtain ⟨rfl, hP, hK, hxe⟩ := hv
  have hx := B.exec
  have hb := B.bytes
  have hr := B.returns
  have hts := atoms_spec (ws := .code yX6_shown cX6_shown 3 (some .int) :: gtbl) B.pre
  have hg : ∀ w ∈ gtbl, w.before _ s = true := fun w h => hts w (List.mem_cons_of_mem _ h)
  have hown : s.vm.findClass RX6 = some m.cls := findClass_of_methodNamed B.named
  have hlocks := B.notSynchronized
  have hS : va_S (g_bA 13 x) s.heap s.heap [] := va_S.rf
  have hl := lv_entry ([.ref (x 0), .int p0, .int p1]) (n := 3) (Nat.le_of_ble_eq_true rfl)
  rw [lg_entry_eq]
  generalize (lg_sl ([.ref (x 0), .int p0, .int p1]) ++ List.replicate (3 - (lg_sl ([.ref (x 0), .int p0, .int p1])).length) Slot.unset).toArray = ls at hl ⊢
  have hl : lv_has ls 3 [(0, .ref (x 0)), (1, .int p0), (2, .int p1)] := hl
  obtain ⟨F, hF⟩ : ∃ F, f_X6_shown u p0 p1 = F := ⟨_, rfl⟩
  rw [hF]
  refine lv_iload_n hx hb dX6_shown_0 rfl (lv_at hl 1 rfl) ?_
  refine lv_if_lt (tgt := 11) hx hb dX6_shown_1 (by decide) (fun c1 => ?_) (fun c1 => ?_)
  · have hF := (if_pos c1).symm.trans hF
    have hok := Eq.mp (if_pos c1) hok
    exact gx_NSE (text := "row is not 0 .. 127") hx hb hst hown hg hxe (by decide +kernel) hP hS (hl.1.trans hml.symm) dX6_shown_11 dX6_shown_14 dX6_shown_15 dX6_shown_17 dX6_shown_20 hout (Nat.le_of_ble_eq_true rfl) (Nat.le_of_ble_eq_true rfl) (Nat.le_of_ble_eq_true rfl) (Nat.le_of_ble_eq_true rfl) hlocks hF
  · have hF := (if_neg c1).symm.trans hF
    have hok := Eq.mp (if_neg c1) hok
    refine lv_iload_n hx hb dX6_shown_4 rfl (lv_at hl 1 rfl) ?_
    refine lv_sipush (v := 128) hx hb dX6_shown_5 (by decide) ?_
    refine lv_icmp_lt (tgt := 21) hx hb dX6_shown_8 (by decide) (fun c2 => ?_) (fun c2 => ?_)
    · have hF := (if_pos c2).symm.trans hF
      have hok := Eq.mp (if_pos c2) hok
      refine lv_iload_n hx hb dX6_shown_21 rfl (lv_at hl 2 rfl) ?_
      refine lv_if_lt (tgt := 31) hx hb dX6_shown_22 (by decide) (fun c3 => ?_) (fun c3 => ?_)
      · have hF := (if_pos c3).symm.trans hF
        have hok := Eq.mp (if_pos c3) hok
        exact gx_NSE (text := "k is not 0 .. 7") hx hb hst hown hg hxe (by decide +kernel) hP hS (hl.1.trans hml.symm) dX6_shown_31 dX6_shown_34 dX6_shown_35 dX6_shown_37 dX6_shown_40 hout (Nat.le_of_ble_eq_true rfl) (Nat.le_of_ble_eq_true rfl) (Nat.le_of_ble_eq_true rfl) (Nat.le_of_ble_eq_true rfl) hlocks hF
      · have hF := (if_neg c3).symm.trans hF
        have hok := Eq.mp (if_neg c3) hok
        refine lv_iload_n hx hb dX6_shown_25 rfl (lv_at hl 2 rfl) ?_
        refine lv_bipush (v := 8) hx hb dX6_shown_26 (by decide) ?_
        refine lv_icmp_lt (tgt := 41) hx hb dX6_shown_28 (by decide) (fun c4 => ?_) (fun c4 => ?_)
        · have hF := (if_pos c4).symm.trans hF
          have hok := Eq.mp (if_pos c4) hok
          refine lv_aload_n hx hb dX6_shown_41 rfl (lv_at hl 0 rfl) ?_
          refine ge_X6_picture hx hb hg hown kf_X6_35 hK hP dX6_shown_42 ?_
          refine lv_iload_n hx hb dX6_shown_45 rfl (lv_at hl 1 rfl) ?_
          refine lv_iload_n hx hb dX6_shown_46 rfl (lv_at hl 2 rfl) ?_
          obtain ⟨c5, hok⟩ := hok
          refine g_Vi hx hb hml hown hg (c_X3_fetchedByte l dC dI cI cZ x hi _ _ _ c5) cs_X6_121 rfl rfl ⟨Nat.le_of_ble_eq_true rfl, Nat.le_of_ble_eq_true rfl⟩ hK hP hS (q0 := 6) rfl rfl rfl hl.1 rfl (Nat.le_of_ble_eq_true rfl) dX6_shown_47 ⟨Nat.zero_le _, Nat.zero_le _⟩ (fun H locs hP hS => ?_)
          exact gx_iret hx hb hr hlocks hP hS dX6_shown_50 hF
        · have hF := (if_neg c4).symm.trans hF
          have hok := Eq.mp (if_neg c4) hok
          exact gx_NSE (text := "k is not 0 .. 7") hx hb hst hown hg hxe (by decide +kernel) hP hS (hl.1.trans hml.symm) dX6_shown_31 dX6_shown_34 dX6_shown_35 dX6_shown_37 dX6_shown_40 hout (Nat.le_of_ble_eq_true rfl) (Nat.le_of_ble_eq_true rfl) (Nat.le_of_ble_eq_true rfl) (Nat.le_of_ble_eq_true rfl) hlocks hF
    · have hF := (if_neg c2).symm.trans hF
      have hok := Eq.mp (if_neg c2) hok
      exact gx_NSE (text := "row is not 0 .. 127") hx hb hst hown hg hxe (by decide +kernel) hP hS (hl.1.trans hml.symm) dX6_shown_11 dX6_shown_14 dX6_shown_15 dX6_shown_17 dX6_shown_20 hout (Nat.le_of_ble_eq_true rfl) (Nat.le_of_ble_eq_true rfl) (Nat.le_of_ble_eq_true rfl) (Nat.le_of_ble_eq_true rfl) hlocks hF
def f_X6_chip_L : Nat → BS → Int32 → Int32 → Option String × Int32 × BS
  | 0, u, _, _ => (none, 0, u)
  | n + 1, u, a1, a2 =>
    if a1 ≤ a2 then
      (none, a1, u)
    else
      let r1 : Int32 × BS := f_X1_step u
      let t2 : Int32 := r1.1
      if t2 = 1 then
        (none, a2, r1.2)
      else
        if t2 = 2 then
          (some x_UOE, 0, r1.2)
        else
          if t2 = 3 then
            (some x_ISE, 0, r1.2)
          else
            let t3 : Int32 := a2 + Int32.ofInt 1
            f_X6_chip_L n r1.2 a1 t3
def ok_X6_chip_L : Nat → BS → Int32 → Int32 → Prop
  | 0, _, _, _ => False
  | n + 1, u, a1, a2 =>
    if a1 ≤ a2 then
      True
    else
      ok_X1_step u ∧
      let r1 : Int32 × BS := f_X1_step u
      let t2 : Int32 := r1.1
      if t2 = 1 then
        True
      else
        if t2 = 2 then
          True
        else
          if t2 = 3 then
            True
          else
            let t3 : Int32 := a2 + Int32.ofInt 1
            ok_X6_chip_L n r1.2 a1 t3
def f_X6_chip (u : BS) (p0 : Int32) : Option String × Int32 × BS :=
  if p0 < 1 then
    (some x_IAE, 0, u)
  else
    if p0 ≤ 200 then
      f_X6_chip_L 201 u p0 0
    else
      (some x_IAE, 0, u)
def ok_X6_chip (u : BS) (p0 : Int32) : Prop :=
  if p0 < 1 then
    True
  else
    if p0 ≤ 200 then
      ok_X6_chip_L 201 u p0 0
    else
      True
set_option maxHeartbeats 4000000 in
set_option maxRecDepth 100000 in
theorem c_X6_chip (l : Launch) (hst : l.stackTraces = false) (dC : Nat → ClassId) (dI : Nat → Nat → Nat) (cI cZ : ClassId) (x : Nat → Nat) (hi : g_inj 13 x) (sa : Nat → Nat) (u : BS) (p0 : Int32) (hok : ok_X6_chip u p0) : g_Xi l yX6_chip (.code yX6_chip cX6_chip 4 (some .int)) { frames := 6, cells := 1, slots := 6, locals := 145 } (dC, dI) vwCl (tysW cI cZ) (wB x cI cZ) (g_bA 13 x) sa u [.ref (x 0), .int p0] (f_X6_chip u p0) := by
  refine vx_ofW (cc := cX6_chip) (maxL := 4) (ret := (some .int)) (by decide) rfl ?_
  intro p e s m args below meth c s₁ B hml hout hv
  obtain ⟨rfl, hP, hK, hxe⟩ := hv
  have hx := B.exec
  have hb := B.bytes
  have hr := B.returns
  have hts := atoms_spec (ws := .code yX6_chip cX6_chip 4 (some .int) :: gtbl) B.pre
  have hg : ∀ w ∈ gtbl, w.before _ s = true := fun w h => hts w (List.mem_cons_of_mem _ h)
  have hown : s.vm.findClass RX6 = some m.cls := findClass_of_methodNamed B.named
  have hlocks := B.notSynchronized
  have hS : va_S (g_bA 13 x) s.heap s.heap [] := va_S.rf
  have hl := lv_entry ([.ref (x 0), .int p0]) (n := 4) (Nat.le_of_ble_eq_true rfl)
  rw [lg_entry_eq]
  generalize (lg_sl ([.ref (x 0), .int p0]) ++ List.replicate (4 - (lg_sl ([.ref (x 0), .int p0])).length) Slot.unset).toArray = ls at hl ⊢
  have hl : lv_has ls 4 [(0, .ref (x 0)), (1, .int p0)] := hl
  obtain ⟨F, hF⟩ : ∃ F, f_X6_chip u p0 = F := ⟨_, rfl⟩
  rw [hF]
  have loop : ∀ (n : Nat), (∀ (u : BS) (a1 : Int32) (a2 : Int32) (H : Heap) (locs : List Loc) (ls : Array Slot), f_X6_chip_L n u a1 a2 = F → ok_X6_chip_L n u a1 a2 → va_P (dC, dI) vwCl (wB x cI cZ u) H → va_S (g_bA 13 x) s.heap H locs → lv_has ls 4 [(0, .ref (x 0)), (1, .int a1), (2, .int a2)] → W p l e (headSpec (.code yX6_chip cX6_chip 4 (some .int) :: gtbl) { frames := 6, cells := 1, slots := 6, locals := 145 }).room s m ([.ref (x 0), .int p0] : List Value).toArray below meth c H locs 0 0 (vx_MQ below (g_Qxi (dC, dI) vwCl (wB x cI cZ) (g_bA 13 x) F) (g_Qxx (dC, dI) vwCl (wB x cI cZ) (g_bA 13 x) F) ([.ref (x 0), .int p0] : List Value).toArray s 1 6 (g_bA 13 x)) (F0 m 24 ls [])) := by
    intro n
    induction n with
    | zero => intro u a1 a2 H locs ls hF hok; exact hok.elim
    | succ n ih =>
      intro u a1 a2 H locs ls hF hok hP hS hl
      refine lv_iload_n hx hb dX6_chip_24 rfl (lv_at hl 2 rfl) ?_
      refine lv_iload_n hx hb dX6_chip_25 rfl (lv_at hl 1 rfl) ?_
      refine lv_icmp_ge (tgt := 80) hx hb dX6_chip_26 (by decide) (fun c3 => ?_) (fun c3 => ?_)
      · have hF := (if_pos c3).symm.trans hF
        have hok := Eq.mp (if_pos c3) hok
        refine lv_iload_n hx hb dX6_chip_80 rfl (lv_at hl 1 rfl) ?_
        exact gx_iret hx hb hr hlocks hP hS dX6_chip_81 hF
      · have hF := (if_neg c3).symm.trans hF
        have hok := Eq.mp (if_neg c3) hok
        refine lv_aload_n hx hb dX6_chip_29 rfl (lv_at hl 0 rfl) ?_
        refine ge_X6_language hx hb hg hown kf_X6_53 hK hP dX6_chip_30 ?_
        obtain ⟨c4, hok⟩ := hok
        refine g_Vi hx hb hml hown hg (c_X1_step l dC dI cI cZ x hi _ c4) cs_X6_127 rfl rfl ⟨Nat.le_of_ble_eq_true rfl, Nat.le_of_ble_eq_true rfl⟩ hK hP hS (q0 := 10) rfl rfl rfl hl.1 rfl (Nat.le_of_ble_eq_true rfl) dX6_chip_33 ⟨Nat.zero_le _, Nat.zero_le _⟩ (fun H locs hP hS => ?_)
        refine lv_istore_n hx hb dX6_chip_36 rfl hl (by decide) rfl (fun ls hl => ?_)
        have hl : lv_has ls 4 [(3, _), (0, _), (1, _), (2, _)] := hl
        refine lv_iload_n hx hb dX6_chip_37 rfl (lv_at hl 0 rfl) ?_
        refine lv_iconst (v := 1) hx hb dX6_chip_38 (by decide) ?_
        refine lv_icmp_ne (tgt := 44) hx hb dX6_chip_39 (by decide) (fun c5 => ?_) (fun c5 => ?_)
        · have hF := (if_neg c5).symm.trans hF
          have hok := Eq.mp (if_neg c5) hok
          refine lv_iload_n hx hb dX6_chip_44 rfl (lv_at hl 0 rfl) ?_
          refine lv_iconst (v := 2) hx hb dX6_chip_45 (by decide) ?_
          refine lv_icmp_ne (tgt := 59) hx hb dX6_chip_46 (by decide) (fun c6 => ?_) (fun c6 => ?_)
          · have hF := (if_neg c6).symm.trans hF
            have hok := Eq.mp (if_neg c6) hok
            refine lv_iload_n hx hb dX6_chip_59 rfl (lv_at hl 0 rfl) ?_
            refine lv_iconst (v := 3) hx hb dX6_chip_60 (by decide) ?_
            refine lv_icmp_ne (tgt := 74) hx hb dX6_chip_61 (by decide) (fun c7 => ?_) (fun c7 => ?_)
            · have hF := (if_neg c7).symm.trans hF
              have hok := Eq.mp (if_neg c7) hok
              refine lv_iinc hx hb dX6_chip_74 hl (k := 3) rfl rfl (by decide) rfl (fun ls hl => ?_)
              have hl : lv_has ls 4 [(2, _), (3, _), (0, _), (1, _)] := hl
              refine lv_goto (tgt := 24) hx hb dX6_chip_77 (by decide) ?_
              exact ih _ _ _ _ _ _ hF hok hP hS (lv_sub hl [2, 3, 0] rfl)
            · have hF := (if_pos c7).symm.trans hF
              have hok := Eq.mp (if_pos c7) hok
              exact gx_ISE (text := "the stack is empty or full") hx hb hst hown hg hxe (by decide +kernel) hP hS (hl.1.trans hml.symm) dX6_chip_64 dX6_chip_67 dX6_chip_68 dX6_chip_70 dX6_chip_73 hout (Nat.le_of_ble_eq_true rfl) (Nat.le_of_ble_eq_true rfl) (Nat.le_of_ble_eq_true rfl) (Nat.le_of_ble_eq_true rfl) hlocks hF
          · have hF := (if_pos c6).symm.trans hF
            have hok := Eq.mp (if_pos c6) hok
            exact gx_UOE (text := "the instruction at PC is none") hx hb hst hown hg hxe (by decide +kernel) hP hS (hl.1.trans hml.symm) dX6_chip_49 dX6_chip_52 dX6_chip_53 dX6_chip_55 dX6_chip_58 hout (Nat.le_of_ble_eq_true rfl) (Nat.le_of_ble_eq_true rfl) (Nat.le_of_ble_eq_true rfl) (Nat.le_of_ble_eq_true rfl) hlocks hF
        · have hF := (if_pos c5).symm.trans hF
          have hok := Eq.mp (if_pos c5) hok
          refine lv_iload_n hx hb dX6_chip_42 rfl (lv_at hl 3 rfl) ?_
          exact gx_iret hx hb hr hlocks hP hS dX6_chip_43 hF
  refine lv_iload_n hx hb dX6_chip_0 rfl (lv_at hl 1 rfl) ?_
  refine lv_iconst (v := 1) hx hb dX6_chip_1 (by decide) ?_
  refine lv_icmp_lt (tgt := 12) hx hb dX6_chip_2 (by decide) (fun c1 => ?_) (fun c1 => ?_)
  · have hF := (if_pos c1).symm.trans hF
    have hok := Eq.mp (if_pos c1) hok
    exact gx_IAE (text := "n is not 1 .. 200") hx hb hst hown hg hxe (by decide +kernel) hP hS (hl.1.trans hml.symm) dX6_chip_12 dX6_chip_15 dX6_chip_16 dX6_chip_18 dX6_chip_21 hout (Nat.le_of_ble_eq_true rfl) (Nat.le_of_ble_eq_true rfl) (Nat.le_of_ble_eq_true rfl) (Nat.le_of_ble_eq_true rfl) hlocks hF
  · have hF := (if_neg c1).symm.trans hF
    have hok := Eq.mp (if_neg c1) hok
    refine lv_iload_n hx hb dX6_chip_5 rfl (lv_at hl 1 rfl) ?_
    refine lv_sipush (v := 200) hx hb dX6_chip_6 (by decide) ?_
    refine lv_icmp_le (tgt := 22) hx hb dX6_chip_9 (by decide) (fun c2 => ?_) (fun c2 => ?_)
    · have hF := (if_pos c2).symm.trans hF
      have hok := Eq.mp (if_pos c2) hok
      refine lv_iconst (v := 0) hx hb dX6_chip_22 (by decide) ?_
      refine lv_istore_n hx hb dX6_chip_23 rfl hl (by decide) rfl (fun ls hl => ?_)
      have hl : lv_has ls 4 [(2, _), (0, _), (1, _)] := hl
      exact (loop 201) _ _ _ _ _ _ hF hok hP hS (lv_sub hl [1, 2, 0] rfl)
    · have hF := (if_neg c2).symm.trans hF
      have hok := Eq.mp (if_neg c2) hok
      exact gx_IAE (text := "n is not 1 .. 200") hx hb hst hown hg hxe (by decide +kernel) hP hS (hl.1.trans hml.symm) dX6_chip_12 dX6_chip_15 dX6_chip_16 dX6_chip_18 dX6_chip_21 hout (Nat.le_of_ble_eq_true rfl) (Nat.le_of_ble_eq_true rfl) (Nat.le_of_ble_eq_true rfl) (Nat.le_of_ble_eq_true rfl) hlocks hF
def f_X6_v (u : BS) (p0 : Int32) : Option String × Int32 × BS :=
  if p0 < 0 then
    (some x_NSE, 0, u)
  else
    if p0 ≤ 21 then
      if p0 = 19 then
        (none, (f_X5_delay u), u)
      else
        if p0 = 20 then
          (none, (f_X5_tone u), u)
        else
          (none, (f_X1_part u p0), u)
    else
      (some x_NSE, 0, u)
set_option maxHeartbeats 4000000 in
set_option maxRecDepth 100000 in
theorem c_X6_v (l : Launch) (hst : l.stackTraces = false) (dC : Nat → ClassId) (dI : Nat → Nat → Nat) (cI cZ : ClassId) (x : Nat → Nat) (hi : g_inj 13 x) (sa : Nat → Nat) (u : BS) (p0 : Int32) : g_Xi l yX6_v (.code yX6_v cX6_v 2 (some .int)) { frames := 6, cells := 1, slots := 6, locals := 90 } (dC, dI) vwCl (tysW cI cZ) (wB x cI cZ) (g_bA 13 x) sa u [.ref (x 0), .int p0] (f_X6_v u p0) := by
  refine vx_ofW (cc := cX6_v) (maxL := 2) (ret := (some .int)) (by decide) rfl ?_
  intro p e s m args below meth c s₁ B hml hout hv
  obtain ⟨rfl, hP, hK, hxe⟩ := hv
  have hx := B.exec
  have hb := B.bytes
  have hr := B.returns
  have hts := atoms_spec (ws := .code yX6_v cX6_v 2 (some .int) :: gtbl) B.pre
  have hg : ∀ w ∈ gtbl, w.before _ s = true := fun w h => hts w (List.mem_cons_of_mem _ h)
  have hown : s.vm.findClass RX6 = some m.cls := findClass_of_methodNamed B.named
  have hlocks := B.notSynchronized
  have hS : va_S (g_bA 13 x) s.heap s.heap [] := va_S.rf
  have hl := lv_entry ([.ref (x 0), .int p0]) (n := 2) (Nat.le_of_ble_eq_true rfl)
  rw [lg_entry_eq]
  generalize (lg_sl ([.ref (x 0), .int p0]) ++ List.replicate (2 - (lg_sl ([.ref (x 0), .int p0])).length) Slot.unset).toArray = ls at hl ⊢
  have hl : lv_has ls 2 [(0, .ref (x 0)), (1, .int p0)] := hl
  obtain ⟨F, hF⟩ : ∃ F, f_X6_v u p0 = F := ⟨_, rfl⟩
  rw [hF]
  refine lv_iload_n hx hb dX6_v_0 rfl (lv_at hl 1 rfl) ?_
  refine lv_if_lt (tgt := 10) hx hb dX6_v_1 (by decide) (fun c1 => ?_) (fun c1 => ?_)
  · have hF := (if_pos c1).symm.trans hF
    exact gx_NSE (text := "what is not 0 .. 21") hx hb hst hown hg hxe (by decide +kernel) hP hS (hl.1.trans hml.symm) dX6_v_10 dX6_v_13 dX6_v_14 dX6_v_16 dX6_v_19 hout (Nat.le_of_ble_eq_true rfl) (Nat.le_of_ble_eq_true rfl) (Nat.le_of_ble_eq_true rfl) (Nat.le_of_ble_eq_true rfl) hlocks hF
  · have hF := (if_neg c1).symm.trans hF
    refine lv_iload_n hx hb dX6_v_4 rfl (lv_at hl 1 rfl) ?_
    refine lv_bipush (v := 21) hx hb dX6_v_5 (by decide) ?_
    refine lv_icmp_le (tgt := 20) hx hb dX6_v_7 (by decide) (fun c2 => ?_) (fun c2 => ?_)
    · have hF := (if_pos c2).symm.trans hF
      refine lv_iload_n hx hb dX6_v_20 rfl (lv_at hl 1 rfl) ?_
      refine lv_bipush (v := 19) hx hb dX6_v_21 (by decide) ?_
      refine lv_icmp_ne (tgt := 34) hx hb dX6_v_23 (by decide) (fun c3 => ?_) (fun c3 => ?_)
      · have hF := (if_neg c3).symm.trans hF
        refine lv_iload_n hx hb dX6_v_34 rfl (lv_at hl 1 rfl) ?_
        refine lv_bipush (v := 20) hx hb dX6_v_35 (by decide) ?_
        refine lv_icmp_ne (tgt := 50) hx hb dX6_v_37 (by decide) (fun c4 => ?_) (fun c4 => ?_)
        · have hF := (if_neg c4).symm.trans hF
          refine lv_aload_n hx hb dX6_v_50 rfl (lv_at hl 0 rfl) ?_
          refine ge_X6_language hx hb hg hown kf_X6_53 hK hP dX6_v_51 ?_
          refine lv_iload_n hx hb dX6_v_54 rfl (lv_at hl 1 rfl) ?_
          refine g_Vi hx hb hml hown hg (c_X1_part l dC dI cI cZ x hi _ _) cs_X6_148 rfl rfl ⟨Nat.le_of_ble_eq_true rfl, Nat.le_of_ble_eq_true rfl⟩ hK hP hS (q0 := 10) rfl rfl rfl hl.1 rfl (Nat.le_of_ble_eq_true rfl) dX6_v_55 ⟨Nat.zero_le _, Nat.zero_le _⟩ (fun H locs hP hS => ?_)
          exact gx_iret hx hb hr hlocks hP hS dX6_v_58 hF
        · have hF := (if_pos c4).symm.trans hF
          refine lv_aload_n hx hb dX6_v_40 rfl (lv_at hl 0 rfl) ?_
          refine ge_X6_timers hx hb hg hown kf_X6_26 hK hP dX6_v_41 ?_
          refine g_Vi hx hb hml hown hg (c_X5_tone l dC dI cI cZ x hi _) cs_X6_145 rfl rfl ⟨Nat.le_of_ble_eq_true rfl, Nat.le_of_ble_eq_true rfl⟩ hK hP hS (q0 := 5) rfl rfl rfl hl.1 rfl (Nat.le_of_ble_eq_true rfl) dX6_v_44 ⟨Nat.zero_le _, Nat.zero_le _⟩ (fun H locs hP hS => ?_)
          refine lv_goto (tgt := 58) hx hb dX6_v_47 (by decide) ?_
          exact gx_iret hx hb hr hlocks hP hS dX6_v_58 hF
      · have hF := (if_pos c3).symm.trans hF
        refine lv_aload_n hx hb dX6_v_26 rfl (lv_at hl 0 rfl) ?_
        refine ge_X6_timers hx hb hg hown kf_X6_26 hK hP dX6_v_27 ?_
        refine g_Vi hx hb hml hown hg (c_X5_delay l dC dI cI cZ x hi _) cs_X6_142 rfl rfl ⟨Nat.le_of_ble_eq_true rfl, Nat.le_of_ble_eq_true rfl⟩ hK hP hS (q0 := 5) rfl rfl rfl hl.1 rfl (Nat.le_of_ble_eq_true rfl) dX6_v_30 ⟨Nat.zero_le _, Nat.zero_le _⟩ (fun H locs hP hS => ?_)
        exact gx_iret hx hb hr hlocks hP hS dX6_v_33 hF
    · have hF := (if_neg c2).symm.trans hF
      exact gx_NSE (text := "what is not 0 .. 21") hx hb hst hown hg hxe (by decide +kernel) hP hS (hl.1.trans hml.symm) dX6_v_10 dX6_v_13 dX6_v_14 dX6_v_16 dX6_v_19 hout (Nat.le_of_ble_eq_true rfl) (Nat.le_of_ble_eq_true rfl) (Nat.le_of_ble_eq_true rfl) (Nat.le_of_ble_eq_true rfl) hlocks hF
def f_X6_start (u : BS) (p0 : Int32) : Option String × Int32 × BS :=
  if p0 < 0 then
    (some x_IAE, 0, u)
  else
    if p0 ≤ 2047 then
      let r1 : BS := f_X1_restart u p0
      (none, 0, r1)
    else
      (some x_IAE, 0, u)
set_option maxHeartbeats 4000000 in
set_option maxRecDepth 100000 in
theorem c_X6_start (l : Launch) (hst : l.stackTraces = false) (dC : Nat → ClassId) (dI : Nat → Nat → Nat) (cI cZ : ClassId) (x : Nat → Nat) (hi : g_inj 13 x) (sa : Nat → Nat) (u : BS) (p0 : Int32) : g_Xv l yX6_start (.code yX6_start cX6_start 2 none) { frames := 6, cells := 1, slots := 6, locals := 90 } (dC, dI) vwCl (tysW cI cZ) (wB x cI cZ) (g_bA 13 x) sa u [.ref (x 0), .int p0] (f_X6_start u p0) := by
  refine vx_ofW (cc := cX6_start) (maxL := 2) (ret := none) (by decide) rfl ?_
  intro p e s m args below meth c s₁ B hml hout hv
  obtain ⟨rfl, hP, hK, hxe⟩ := hv
  have hx := B.exec
  have hb := B.bytes
  have hr := B.returns
  have hts := atoms_spec (ws := .code yX6_start cX6_start 2 none :: gtbl) B.pre
  have hg : ∀ w ∈ gtbl, w.before _ s = true := fun w h => hts w (List.mem_cons_of_mem _ h)
  have hown : s.vm.findClass RX6 = some m.cls := findClass_of_methodNamed B.named
  have hlocks := B.notSynchronized
  have hS : va_S (g_bA 13 x) s.heap s.heap [] := va_S.rf
  have hl := lv_entry ([.ref (x 0), .int p0]) (n := 2) (Nat.le_of_ble_eq_true rfl)
  rw [lg_entry_eq]
  generalize (lg_sl ([.ref (x 0), .int p0]) ++ List.replicate (2 - (lg_sl ([.ref (x 0), .int p0])).length) Slot.unset).toArray = ls at hl ⊢
  have hl : lv_has ls 2 [(0, .ref (x 0)), (1, .int p0)] := hl
  obtain ⟨F, hF⟩ : ∃ F, f_X6_start u p0 = F := ⟨_, rfl⟩
  rw [hF]
  refine lv_iload_n hx hb dX6_start_0 rfl (lv_at hl 1 rfl) ?_
  refine lv_if_lt (tgt := 11) hx hb dX6_start_1 (by decide) (fun c1 => ?_) (fun c1 => ?_)
  · have hF := (if_pos c1).symm.trans hF
    exact gx_IAE (text := "pc is not 0 .. 2047") hx hb hst hown hg hxe (by decide +kernel) hP hS (hl.1.trans hml.symm) dX6_start_11 dX6_start_14 dX6_start_15 dX6_start_17 dX6_start_20 hout (Nat.le_of_ble_eq_true rfl) (Nat.le_of_ble_eq_true rfl) (Nat.le_of_ble_eq_true rfl) (Nat.le_of_ble_eq_true rfl) hlocks hF
  · have hF := (if_neg c1).symm.trans hF
    refine lv_iload_n hx hb dX6_start_4 rfl (lv_at hl 1 rfl) ?_
    refine lv_sipush (v := 2047) hx hb dX6_start_5 (by decide) ?_
    refine lv_icmp_le (tgt := 21) hx hb dX6_start_8 (by decide) (fun c2 => ?_) (fun c2 => ?_)
    · have hF := (if_pos c2).symm.trans hF
      refine lv_aload_n hx hb dX6_start_21 rfl (lv_at hl 0 rfl) ?_
      refine ge_X6_language hx hb hg hown kf_X6_53 hK hP dX6_start_22 ?_
      refine lv_iload_n hx hb dX6_start_25 rfl (lv_at hl 1 rfl) ?_
      refine g_Vv hx hb hml hown hg (c_X1_restart l dC dI cI cZ x hi _ _) cs_X6_151 rfl rfl ⟨Nat.le_of_ble_eq_true rfl, Nat.le_of_ble_eq_true rfl⟩ hK hP hS (q0 := 10) rfl rfl rfl hl.1 rfl (Nat.le_of_ble_eq_true rfl) dX6_start_26 ⟨Nat.zero_le _, Nat.zero_le _⟩ (fun H locs hP hS => ?_)
      exact gx_vret hx hb hr hlocks hP hS dX6_start_29 hF
    · have hF := (if_neg c2).symm.trans hF
      exact gx_IAE (text := "pc is not 0 .. 2047") hx hb hst hown hg hxe (by decide +kernel) hP hS (hl.1.trans hml.symm) dX6_start_11 dX6_start_14 dX6_start_15 dX6_start_17 dX6_start_20 hout (Nat.le_of_ble_eq_true rfl) (Nat.le_of_ble_eq_true rfl) (Nat.le_of_ble_eq_true rfl) (Nat.le_of_ble_eq_true rfl) hlocks hF
