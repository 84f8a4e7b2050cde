def f_X4_register (u : BS) (p0 : Int32) : Int32 :=
  (bq_regs u ((p0 &&& 15)).toNatClampNeg)
set_option maxHeartbeats 4000000 in
set_option maxRecDepth 100000 in
theorem c_X4_register (l : Launch) (dC : Nat → ClassId) (dI : Nat → Nat → Nat) (cI cZ : ClassId) (x : Nat → Nat) (hi : g_inj 13 x) (u : BS) (p0 : Int32) : g_Mi l yX4_register (.code yX4_register cX4_register 2 (some .int)) { frames := 0, cells := 0, slots := 0, locals := 0 } (dC, dI) vwCl (tysW cI cZ) (wB x cI cZ) (g_bA 13 x) u [.ref (x 8), .int p0] (f_X4_register u p0) u := by
  refine Met.ofW (cc := cX4_register) (maxL := 2) (ret := (some .int)) (by decide) rfl ?_
  intro p e s m args below meth c s₁ B hml hv
  obtain ⟨rfl, hP, hK⟩ := hv
  have hx := B.exec
  have hb := B.bytes
  have hr := B.returns
  have hts := atoms_spec (ws := .code yX4_register cX4_register 2 (some .int) :: gtbl) B.pre
  have hg : ∀ w ∈ gtbl, w.before _ s = true := fun w h => hts w (List.mem_cons_of_mem _ h)
  have hown : s.vm.findClass RX4 = some m.cls := findClass_of_methodNamed B.named
  have hlocks := B.notSynchronized
  have hS : va_S (g_bA 13 x) s.heap s.heap [] := va_S.rf
  have hl := lv_entry ([.ref (x 8), .int p0]) (n := 2) (Nat.le_of_ble_eq_true rfl)
  rw [lg_entry_eq]
  generalize (lg_sl ([.ref (x 8), .int p0]) ++ List.replicate (2 - (lg_sl ([.ref (x 8), .int p0])).length) Slot.unset).toArray = ls at hl ⊢
  have hl : lv_has ls 2 [(0, .ref (x 8)), (1, .int p0)] := hl
  obtain ⟨F, hF⟩ : ∃ F, f_X4_register u p0 = F := ⟨_, rfl⟩
  rw [hF]
  refine lv_aload_n hx hb dX4_register_0 rfl (lv_at hl 0 rfl) ?_
  refine ge_X4_registers hx hb hg hown kf_X4_9 hK hP dX4_register_1 ?_
  refine lv_iload_n hx hb dX4_register_4 rfl (lv_at hl 1 rfl) ?_
  refine lv_bipush (v := 15) hx hb dX4_register_5 (by decide) ?_
  refine lv_iand hx hb dX4_register_7 ?_
  refine bl_regs hx hb hK hP (pk_andIn _ 4 rfl (by decide)) dX4_register_8 ?_
  exact g_iret hx hb hr hlocks hP hS dX4_register_9 hF rfl
def f_X4_putRegister (u : BS) (p0 : Int32) (p1 : Int32) : BS :=
  let u1 : BS := bs_regs u (upd (bq_regs u) ((p0 &&& 15)).toNatClampNeg (p1 &&& 65535))
  u1
set_option maxHeartbeats 4000000 in
set_option maxRecDepth 100000 in
theorem c_X4_putRegister (l : Launch) (dC : Nat → ClassId) (dI : Nat → Nat → Nat) (cI cZ : ClassId) (x : Nat → Nat) (hi : g_inj 13 x) (u : BS) (p0 : Int32) (p1 : Int32) : g_Mv l yX4_putRegister (.code yX4_putRegister cX4_putRegister 3 none) { frames := 0, cells := 0, slots := 0, locals := 0 } (dC, dI) vwCl (tysW cI cZ) (wB x cI cZ) (g_bA 13 x) u [.ref (x 8), .int p0, .int p1] (f_X4_putRegister u p0 p1) := by
  refine Met.ofW (cc := cX4_putRegister) (maxL := 3) (ret := none) (by decide) rfl ?_
  intro p e s m args below meth c s₁ B hml hv
  obtain ⟨rfl, hP, hK⟩ := hv
  have hx := B.exec
  have hb := B.bytes
  have hr := B.returns
  have hts := atoms_spec (ws := .code yX4_putRegister cX4_putRegister 3 none :: gtbl) B.pre
  have hg : ∀ w ∈ gtbl, w.before _ s = true := fun w h => hts w (List.mem_cons_of_mem _ h)
  have hown : s.vm.findClass RX4 = some m.cls := findClass_of_methodNamed B.named
  have hlocks := B.notSynchronized
  have hS : va_S (g_bA 13 x) s.heap s.heap [] := va_S.rf
  have hl := lv_entry ([.ref (x 8), .int p0, .int p1]) (n := 3) (Nat.le_of_ble_eq_true rfl)
  rw [lg_entry_eq]
  generalize (lg_sl ([.ref (x 8), .int p0, .int p1]) ++ List.replicate (3 - (lg_sl ([.ref (x 8), .int p0, .int p1])).length) Slot.unset).toArray = ls at hl ⊢
  have hl : lv_has ls 3 [(0, .ref (x 8)), (1, .int p0), (2, .int p1)] := hl
  obtain ⟨F, hF⟩ : ∃ F, f_X4_putRegister u p0 p1 = F := ⟨_, rfl⟩
  rw [hF]
  refine lv_aload_n hx hb dX4_putRegister_0 rfl (lv_at hl 0 rfl) ?_
  refine ge_X4_registers hx hb hg hown kf_X4_9 hK hP dX4_putRegister_1 ?_
  refine lv_iload_n hx hb dX4_putRegister_4 rfl (lv_at hl 1 rfl) ?_
  refine lv_bipush (v := 15) hx hb dX4_putRegister_5 (by decide) ?_
  refine lv_iand hx hb dX4_putRegister_7 ?_
  refine lv_iload_n hx hb dX4_putRegister_8 rfl (lv_at hl 2 rfl) ?_
  refine lv_ldc (v := 65535) hx hb hown (hg _ kd_X4_55) dX4_putRegister_9 ?_
  refine lv_iand hx hb dX4_putRegister_11 ?_
  refine ba_regs hi hx hb hK hP hS (pk_andIn _ 4 rfl (by decide)) dX4_putRegister_12 (fun H locs hP hS => ?_)
  exact g_vret hx hb hr hlocks hP hS dX4_putRegister_13 hF
def f_X4_part (u : BS) (p0 : Int32) : Int32 :=
  if p0 = 16 then
    (bq_d u)
  else
    if p0 = 17 then
      (bq_df u)
    else
      if p0 = 18 then
        (bq_p u)
      else
        if p0 = 19 then
          (bq_x u)
        else
          if p0 = 20 then
            (bq_t u)
          else
            if p0 = 21 then
              (bq_ie u)
            else
              if p0 = 22 then
                (bq_q u)
              else
                if p0 = 23 then
                  if (bq_idle u) = 0 then
                    0
                  else
                    1
                else
                  (f_X4_register u p0)
set_option maxHeartbeats 4000000 in
set_option maxRecDepth 100000 in
theorem c_X4_part (l : Launch) (dC : Nat → ClassId) (dI : Nat → Nat → Nat) (cI cZ : ClassId) (x : Nat → Nat) (hi : g_inj 13 x) (u : BS) (p0 : Int32) : g_Mi l yX4_part (.code yX4_part cX4_part 2 (some .int)) { frames := 1, cells := 0, slots := 0, locals := 21 } (dC, dI) vwCl (tysW cI cZ) (wB x cI cZ) (g_bA 13 x) u [.ref (x 8), .int p0] (f_X4_part u p0) u := by
  refine Met.ofW (cc := cX4_part) (maxL := 2) (ret := (some .int)) (by decide) rfl ?_
  intro p e s m args below meth c s₁ B hml hv
  obtain ⟨rfl, hP, hK⟩ := hv
  have hx := B.exec
  have hb := B.bytes
  have hr := B.returns
  have hts := atoms_spec (ws := .code yX4_part cX4_part 2 (some .int) :: gtbl) B.pre
  have hg : ∀ w ∈ gtbl, w.before _ s = true := fun w h => hts w (List.mem_cons_of_mem _ h)
  have hown : s.vm.findClass RX4 = some m.cls := findClass_of_methodNamed B.named
  have hlocks := B.notSynchronized
  have hS : va_S (g_bA 13 x) s.heap s.heap [] := va_S.rf
  have hl := lv_entry ([.ref (x 8), .int p0]) (n := 2) (Nat.le_of_ble_eq_true rfl)
  rw [lg_entry_eq]
  generalize (lg_sl ([.ref (x 8), .int p0]) ++ List.replicate (2 - (lg_sl ([.ref (x 8), .int p0])).length) Slot.unset).toArray = ls at hl ⊢
  have hl : lv_has ls 2 [(0, .ref (x 8)), (1, .int p0)] := hl
  obtain ⟨F, hF⟩ : ∃ F, f_X4_part u p0 = F := ⟨_, rfl⟩
  rw [hF]
  refine lv_iload_n hx hb dX4_part_0 rfl (lv_at hl 1 rfl) ?_
  refine sw_case (v := 16) (fun c1 => ?_) (fun c1 => ?_)
  · have hF := (if_pos c1).symm.trans hF
    refine sw_in (off := 47) (tgt := 48) 16 hx hb dX4_part_1 c1 (by decide) (by decide) ?_
    refine lv_aload_n hx hb dX4_part_48 rfl (lv_at hl 0 rfl) ?_
    refine ge_X4_d hx hb hg hown kf_X4_29 hK hP dX4_part_49 ?_
    exact g_iret hx hb hr hlocks hP hS dX4_part_52 hF rfl
  · have hF := (if_neg c1).symm.trans hF
    refine sw_case (v := 17) (fun c2 => ?_) (fun c2 => ?_)
    · have hF := (if_pos c2).symm.trans hF
      refine sw_in (off := 52) (tgt := 53) 17 hx hb dX4_part_1 c2 (by decide) (by decide) ?_
      refine lv_aload_n hx hb dX4_part_53 rfl (lv_at hl 0 rfl) ?_
      refine ge_X4_df hx hb hg hown kf_X4_32 hK hP dX4_part_54 ?_
      exact g_iret hx hb hr hlocks hP hS dX4_part_57 hF rfl
    · have hF := (if_neg c2).symm.trans hF
      refine sw_case (v := 18) (fun c3 => ?_) (fun c3 => ?_)
      · have hF := (if_pos c3).symm.trans hF
        refine sw_in (off := 57) (tgt := 58) 18 hx hb dX4_part_1 c3 (by decide) (by decide) ?_
        refine lv_aload_n hx hb dX4_part_58 rfl (lv_at hl 0 rfl) ?_
        refine ge_X4_p hx hb hg hown kf_X4_35 hK hP dX4_part_59 ?_
        exact g_iret hx hb hr hlocks hP hS dX4_part_62 hF rfl
      · have hF := (if_neg c3).symm.trans hF
        refine sw_case (v := 19) (fun c4 => ?_) (fun c4 => ?_)
        · have hF := (if_pos c4).symm.trans hF
          refine sw_in (off := 62) (tgt := 63) 19 hx hb dX4_part_1 c4 (by decide) (by decide) ?_
          refine lv_aload_n hx hb dX4_part_63 rfl (lv_at hl 0 rfl) ?_
          refine ge_X4_x hx hb hg hown kf_X4_38 hK hP dX4_part_64 ?_
          exact g_iret hx hb hr hlocks hP hS dX4_part_67 hF rfl
        · have hF := (if_neg c4).symm.trans hF
          refine sw_case (v := 20) (fun c5 => ?_) (fun c5 => ?_)
          · have hF := (if_pos c5).symm.trans hF
            refine sw_in (off := 67) (tgt := 68) 20 hx hb dX4_part_1 c5 (by decide) (by decide) ?_
            refine lv_aload_n hx hb dX4_part_68 rfl (lv_at hl 0 rfl) ?_
            refine ge_X4_t hx hb hg hown kf_X4_41 hK hP dX4_part_69 ?_
            exact g_iret hx hb hr hlocks hP hS dX4_part_72 hF rfl
          · have hF := (if_neg c5).symm.trans hF
            refine sw_case (v := 21) (fun c6 => ?_) (fun c6 => ?_)
            · have hF := (if_pos c6).symm.trans hF
              refine sw_in (off := 72) (tgt := 73) 21 hx hb dX4_part_1 c6 (by decide) (by decide) ?_
              refine lv_aload_n hx hb dX4_part_73 rfl (lv_at hl 0 rfl) ?_
              refine ge_X4_ie hx hb hg hown kf_X4_13 hK hP dX4_part_74 ?_
              exact g_iret hx hb hr hlocks hP hS dX4_part_77 hF rfl
            · have hF := (if_neg c6).symm.trans hF
              refine sw_case (v := 22) (fun c7 => ?_) (fun c7 => ?_)
              · have hF := (if_pos c7).symm.trans hF
                refine sw_in (off := 77) (tgt := 78) 22 hx hb dX4_part_1 c7 (by decide) (by decide) ?_
                refine lv_aload_n hx hb dX4_part_78 rfl (lv_at hl 0 rfl) ?_
                refine ge_X4_q hx hb hg hown kf_X4_44 hK hP dX4_part_79 ?_
                exact g_iret hx hb hr hlocks hP hS dX4_part_82 hF rfl
              · have hF := (if_neg c7).symm.trans hF
                refine sw_case (v := 23) (fun c8 => ?_) (fun c8 => ?_)
                · have hF := (if_pos c8).symm.trans hF
                  refine sw_in (off := 82) (tgt := 83) 23 hx hb dX4_part_1 c8 (by decide) (by decide) ?_
                  refine lv_aload_n hx hb dX4_part_83 rfl (lv_at hl 0 rfl) ?_
                  refine ge_X4_idle hx hb hg hown kf_X4_47 hK hP dX4_part_84 ?_
                  refine lv_if_eq (tgt := 94) hx hb dX4_part_87 (by decide) (fun c9 => ?_) (fun c9 => ?_)
                  · have hF := (if_pos c9).symm.trans hF
                    refine lv_iconst (v := 0) hx hb dX4_part_94 (by decide) ?_
                    exact g_iret hx hb hr hlocks hP hS dX4_part_95 hF rfl
                  · have hF := (if_neg c9).symm.trans hF
                    refine lv_iconst (v := 1) hx hb dX4_part_90 (by decide) ?_
                    refine lv_goto (tgt := 95) hx hb dX4_part_91 (by decide) ?_
                    exact g_iret hx hb hr hlocks hP hS dX4_part_95 hF rfl
                · have hF := (if_neg c8).symm.trans hF
                  refine sw_def (tgt := 96) [16, 17, 18, 19, 20, 21, 22, 23] hx hb dX4_part_1 (List.forall_mem_cons.mpr ⟨c1, List.forall_mem_cons.mpr ⟨c2, List.forall_mem_cons.mpr ⟨c3, List.forall_mem_cons.mpr ⟨c4, List.forall_mem_cons.mpr ⟨c5, List.forall_mem_cons.mpr ⟨c6, List.forall_mem_cons.mpr ⟨c7, List.forall_mem_cons.mpr ⟨c8, fun _ h => absurd h List.not_mem_nil⟩⟩⟩⟩⟩⟩⟩⟩) (by decide) (by decide) ?_
                  refine lv_aload_n hx hb dX4_part_96 rfl (lv_at hl 0 rfl) ?_
                  refine lv_iload_n hx hb dX4_part_97 rfl (lv_at hl 1 rfl) ?_
                  refine g_Vi hx hb hml hown hg (c_X4_register l dC dI cI cZ x hi _ _) cs_X4_51 rfl rfl ⟨Nat.le_of_ble_eq_true rfl, Nat.le_of_ble_eq_true rfl⟩ hK hP hS (q0 := 8) rfl rfl rfl hl.1 rfl (Nat.le_of_ble_eq_true rfl) dX4_part_98 ⟨Nat.zero_le _, Nat.zero_le _⟩ (fun H locs hP hS => ?_)
                  exact g_iret hx hb hr hlocks hP hS dX4_part_101 hF rfl
def f_X4_mostOf (u : BS) (p0 : Int32) : Int32 :=
  if p0 = 16 then
    255
  else
    if p0 = 17 then
      1
    else
      if p0 = 18 then
        15
      else
        if p0 = 19 then
          15
        else
          if p0 = 20 then
            255
          else
            if p0 = 21 then
              1
            else
              if p0 = 22 then
                1
              else
                65535
set_option maxHeartbeats 4000000 in
set_option maxRecDepth 100000 in
theorem c_X4_mostOf (l : Launch) (dC : Nat → ClassId) (dI : Nat → Nat → Nat) (cI cZ : ClassId) (x : Nat → Nat) (hi : g_inj 13 x) (u : BS) (p0 : Int32) : g_Mi l yX4_mostOf (.code yX4_mostOf cX4_mostOf 1 (some .int)) { frames := 0, cells := 0, slots := 0, locals := 0 } (dC, dI) vwCl (tysW cI cZ) (wB x cI cZ) (g_bA 13 x) u [.int p0] (f_X4_mostOf u p0) u := by
  refine Met.ofW (cc := cX4_mostOf) (maxL := 1) (ret := (some .int)) (by decide) rfl ?_
  intro p e s m args below meth c s₁ B hml hv
  obtain ⟨rfl, hP, hK⟩ := hv
  have hx := B.exec
  have hb := B.bytes
  have hr := B.returns
  have hts := atoms_spec (ws := .code yX4_mostOf cX4_mostOf 1 (some .int) :: gtbl) B.pre
  have hg : ∀ w ∈ gtbl, w.before _ s = true := fun w h => hts w (List.mem_cons_of_mem _ h)
  have hown : s.vm.findClass RX4 = some m.cls := findClass_of_methodNamed B.named
  have hlocks := B.notSynchronized
  have hS : va_S (g_bA 13 x) s.heap s.heap [] := va_S.rf
  have hl := lv_entry ([.int p0]) (n := 1) (Nat.le_of_ble_eq_true rfl)
  rw [lg_entry_eq]
  generalize (lg_sl ([.int p0]) ++ List.replicate (1 - (lg_sl ([.int p0])).length) Slot.unset).toArray = ls at hl ⊢
  have hl : lv_has ls 1 [(0, .int p0)] := hl
  obtain ⟨F, hF⟩ : ∃ F, f_X4_mostOf u p0 = F := ⟨_, rfl⟩
  rw [hF]
  refine lv_iload_n hx hb dX4_mostOf_0 rfl (lv_at hl 0 rfl) ?_
  refine sw_case (v := 16) (fun c1 => ?_) (fun c1 => ?_)
  · have hF := (if_pos c1).symm.trans hF
    refine sw_in (off := 43) (tgt := 44) 16 hx hb dX4_mostOf_1 c1 (by decide) (by decide) ?_
    refine lv_sipush (v := 255) hx hb dX4_mostOf_44 (by decide) ?_
    exact g_iret hx hb hr hlocks hP hS dX4_mostOf_47 hF rfl
  · have hF := (if_neg c1).symm.trans hF
    refine sw_case (v := 17) (fun c2 => ?_) (fun c2 => ?_)
    · have hF := (if_pos c2).symm.trans hF
      refine sw_in (off := 50) (tgt := 51) 17 hx hb dX4_mostOf_1 c2 (by decide) (by decide) ?_
      refine lv_iconst (v := 1) hx hb dX4_mostOf_51 (by decide) ?_
      exact g_iret hx hb hr hlocks hP hS dX4_mostOf_52 hF rfl
    · have hF := (if_neg c2).symm.trans hF
      refine sw_case (v := 18) (fun c3 => ?_) (fun c3 => ?_)
      · have hF := (if_pos c3).symm.trans hF
        refine sw_in (off := 47) (tgt := 48) 18 hx hb dX4_mostOf_1 c3 (by decide) (by decide) ?_
        refine lv_bipush (v := 15) hx hb dX4_mostOf_48 (by decide) ?_
        exact g_iret hx hb hr hlocks hP hS dX4_mostOf_50 hF rfl
      · have hF := (if_neg c3).symm.trans hF
        refine sw_case (v := 19) (fun c4 => ?_) (fun c4 => ?_)
        · have hF := (if_pos c4).symm.trans hF
          refine sw_in (off := 47) (tgt := 48) 19 hx hb dX4_mostOf_1 c4 (by decide) (by decide) ?_
          refine lv_bipush (v := 15) hx hb dX4_mostOf_48 (by decide) ?_
          exact g_iret hx hb hr hlocks hP hS dX4_mostOf_50 hF rfl
        · have hF := (if_neg c4).symm.trans hF
          refine sw_case (v := 20) (fun c5 => ?_) (fun c5 => ?_)
          · have hF := (if_pos c5).symm.trans hF
            refine sw_in (off := 43) (tgt := 44) 20 hx hb dX4_mostOf_1 c5 (by decide) (by decide) ?_
            refine lv_sipush (v := 255) hx hb dX4_mostOf_44 (by decide) ?_
            exact g_iret hx hb hr hlocks hP hS dX4_mostOf_47 hF rfl
          · have hF := (if_neg c5).symm.trans hF
            refine sw_case (v := 21) (fun c6 => ?_) (fun c6 => ?_)
            · have hF := (if_pos c6).symm.trans hF
              refine sw_in (off := 50) (tgt := 51) 21 hx hb dX4_mostOf_1 c6 (by decide) (by decide) ?_
              refine lv_iconst (v := 1) hx hb dX4_mostOf_51 (by decide) ?_
              exact g_iret hx hb hr hlocks hP hS dX4_mostOf_52 hF rfl
            · have hF := (if_neg c6).symm.trans hF
              refine sw_case (v := 22) (fun c7 => ?_) (fun c7 => ?_)
              · have hF := (if_pos c7).symm.trans hF
                refine sw_in (off := 50) (tgt := 51) 22 hx hb dX4_mostOf_1 c7 (by decide) (by decide) ?_
                refine lv_iconst (v := 1) hx hb dX4_mostOf_51 (by decide) ?_
                exact g_iret hx hb hr hlocks hP hS dX4_mostOf_52 hF rfl
              · have hF := (if_neg c7).symm.trans hF
                refine sw_def (tgt := 53) [16, 17, 18, 19, 20, 21, 22] hx hb dX4_mostOf_1 (List.forall_mem_cons.mpr ⟨c1, List.forall_mem_cons.mpr ⟨c2, List.forall_mem_cons.mpr ⟨c3, List.forall_mem_cons.mpr ⟨c4, List.forall_mem_cons.mpr ⟨c5, List.forall_mem_cons.mpr ⟨c6, List.forall_mem_cons.mpr ⟨c7, fun _ h => absurd h List.not_mem_nil⟩⟩⟩⟩⟩⟩⟩) (by decide) (by decide) ?_
                refine lv_ldc (v := 65535) hx hb hown (hg _ kd_X4_55) dX4_mostOf_53 ?_
                exact g_iret hx hb hr hlocks hP hS dX4_mostOf_55 hF rfl
def f_X4_change (u : BS) (p0 : Int32) (p1 : Int32) : BS :=
  if p0 = 16 then
    let u1 : BS := bs_d u p1
    u1
  else
    if p0 = 17 then
      let u2 : BS := bs_df u p1
      u2
    else
      if p0 = 18 then
        let u3 : BS := bs_p u p1
        u3
      else
        if p0 = 19 then
          let u4 : BS := bs_x u p1
          u4
        else
          if p0 = 20 then
            let u5 : BS := bs_t u p1
            u5
          else
            if p0 = 21 then
              let u6 : BS := bs_ie u p1
              u6
            else
              if p0 = 22 then
                let u7 : BS := bs_q u p1
                u7
              else
                let r8 : BS := f_X4_putRegister u p0 p1
                r8
set_option maxHeartbeats 4000000 in
set_option maxRecDepth 100000 in
theorem c_X4_change (l : Launch) (dC : Nat → ClassId) (dI : Nat → Nat → Nat) (cI cZ : ClassId) (x : Nat → Nat) (hi : g_inj 13 x) (u : BS) (p0 : Int32) (p1 : Int32) : g_Mv l yX4_change (.code yX4_change cX4_change 3 none) { frames := 1, cells := 0, slots := 0, locals := 22 } (dC, dI) vwCl (tysW cI cZ) (wB x cI cZ) (g_bA 13 x) u [.ref (x 8), .int p0, .int p1] (f_X4_change u p0 p1) := by
  refine Met.ofW (cc := cX4_change) (maxL := 3) (ret := none) (by decide) rfl ?_
  intro p e s m args below meth c s₁ B hml hv
  obtain ⟨rfl, hP, hK⟩ := hv
  have hx := B.exec
  have hb := B.bytes
  have hr := B.returns
  have hts := atoms_spec (ws := .code yX4_change cX4_change 3 none :: gtbl) B.pre
  have hg : ∀ w ∈ gtbl, w.before _ s = true := fun w h => hts w (List.mem_cons_of_mem _ h)
  have hown : s.vm.findClass RX4 = some m.cls := findClass_of_methodNamed B.named
  have hlocks := B.notSynchronized
  have hS : va_S (g_bA 13 x) s.heap s.heap [] := va_S.rf
  have hl := lv_entry ([.ref (x 8), .int p0, .int p1]) (n := 3) (Nat.le_of_ble_eq_true rfl)
  rw [lg_entry_eq]
  generalize (lg_sl ([.ref (x 8), .int p0, .int p1]) ++ List.replicate (3 - (lg_sl ([.ref (x 8), .int p0, .int p1])).length) Slot.unset).toArray = ls at hl ⊢
  have hl : lv_has ls 3 [(0, .ref (x 8)), (1, .int p0), (2, .int p1)] := hl
  obtain ⟨F, hF⟩ : ∃ F, f_X4_change u p0 p1 = F := ⟨_, rfl⟩
  rw [hF]
  refine lv_iload_n hx hb dX4_change_0 rfl (lv_at hl 1 rfl) ?_
  refine sw_case (v := 16) (fun c1 => ?_) (fun c1 => ?_)
  · have hF := (if_pos c1).symm.trans hF
    refine sw_in (off := 43) (tgt := 44) 16 hx hb dX4_change_1 c1 (by decide) (by decide) ?_
    refine lv_aload_n hx hb dX4_change_44 rfl (lv_at hl 0 rfl) ?_
    refine lv_iload_n hx hb dX4_change_45 rfl (lv_at hl 2 rfl) ?_
    refine pu_X4_d hi hx hb hg hown kf_X4_29 hK hP hS dX4_change_46 (fun H locs hP hS => ?_)
    refine lv_goto (tgt := 106) hx hb dX4_change_49 (by decide) ?_
    exact g_vret hx hb hr hlocks hP hS dX4_change_106 hF
  · have hF := (if_neg c1).symm.trans hF
    refine sw_case (v := 17) (fun c2 => ?_) (fun c2 => ?_)
    · have hF := (if_pos c2).symm.trans hF
      refine sw_in (off := 51) (tgt := 52) 17 hx hb dX4_change_1 c2 (by decide) (by decide) ?_
      refine lv_aload_n hx hb dX4_change_52 rfl (lv_at hl 0 rfl) ?_
      refine lv_iload_n hx hb dX4_change_53 rfl (lv_at hl 2 rfl) ?_
      refine pu_X4_df hi hx hb hg hown kf_X4_32 hK hP hS dX4_change_54 (fun H locs hP hS => ?_)
      refine lv_goto (tgt := 106) hx hb dX4_change_57 (by decide) ?_
      exact g_vret hx hb hr hlocks hP hS dX4_change_106 hF
    · have hF := (if_neg c2).symm.trans hF
      refine sw_case (v := 18) (fun c3 => ?_) (fun c3 => ?_)
      · have hF := (if_pos c3).symm.trans hF
        refine sw_in (off := 59) (tgt := 60) 18 hx hb dX4_change_1 c3 (by decide) (by decide) ?_
        refine lv_aload_n hx hb dX4_change_60 rfl (lv_at hl 0 rfl) ?_
        refine lv_iload_n hx hb dX4_change_61 rfl (lv_at hl 2 rfl) ?_
        refine pu_X4_p hi hx hb hg hown kf_X4_35 hK hP hS dX4_change_62 (fun H locs hP hS => ?_)
        refine lv_goto (tgt := 106) hx hb dX4_change_65 (by decide) ?_
        exact g_vret hx hb hr hlocks hP hS dX4_change_106 hF
      · have hF := (if_neg c3).symm.trans hF
        refine sw_case (v := 19) (fun c4 => ?_) (fun c4 => ?_)
        · have hF := (if_pos c4).symm.trans hF
          refine sw_in (off := 67) (tgt := 68) 19 hx hb dX4_change_1 c4 (by decide) (by decide) ?_
          refine lv_aload_n hx hb dX4_change_68 rfl (lv_at hl 0 rfl) ?_
          refine lv_iload_n hx hb dX4_change_69 rfl (lv_at hl 2 rfl) ?_
          refine pu_X4_x hi hx hb hg hown kf_X4_38 hK hP hS dX4_change_70 (fun H locs hP hS => ?_)
          refine lv_goto (tgt := 106) hx hb dX4_change_73 (by decide) ?_
          exact g_vret hx hb hr hlocks hP hS dX4_change_106 hF
        · have hF := (if_neg c4).symm.trans hF
          refine sw_case (v := 20) (fun c5 => ?_) (fun c5 => ?_)
          · have hF := (if_pos c5).symm.trans hF
            refine sw_in (off := 75) (tgt := 76) 20 hx hb dX4_change_1 c5 (by decide) (by decide) ?_
            refine lv_aload_n hx hb dX4_change_76 rfl (lv_at hl 0 rfl) ?_
            refine lv_iload_n hx hb dX4_change_77 rfl (lv_at hl 2 rfl) ?_
            refine pu_X4_t hi hx hb hg hown kf_X4_41 hK hP hS dX4_change_78 (fun H locs hP hS => ?_)
            refine lv_goto (tgt := 106) hx hb dX4_change_81 (by decide) ?_
            exact g_vret hx hb hr hlocks hP hS dX4_change_106 hF
          · have hF := (if_neg c5).symm.trans hF
            refine sw_case (v := 21) (fun c6 => ?_) (fun c6 => ?_)
            · have hF := (if_pos c6).symm.trans hF
              refine sw_in (off := 83) (tgt := 84) 21 hx hb dX4_change_1 c6 (by decide) (by decide) ?_
              refine lv_aload_n hx hb dX4_change_84 rfl (lv_at hl 0 rfl) ?_
              refine lv_iload_n hx hb dX4_change_85 rfl (lv_at hl 2 rfl) ?_
              refine pu_X4_ie hi hx hb hg hown kf_X4_13 hK hP hS dX4_change_86 (fun H locs hP hS => ?_)
              refine lv_goto (tgt := 106) hx hb dX4_change_89 (by decide) ?_
              exact g_vret hx hb hr hlocks hP hS dX4_change_106 hF
            · have hF := (if_neg c6).symm.trans hF
              refine sw_case (v := 22) (fun c7 => ?_) (fun c7 => ?_)
              · have hF := (if_pos c7).symm.trans hF
                refine sw_in (off := 91) (tgt := 92) 22 hx hb dX4_change_1 c7 (by decide) (by decide) ?_
                refine lv_aload_n hx hb dX4_change_92 rfl (lv_at hl 0 rfl) ?_
                refine lv_iload_n hx hb dX4_change_93 rfl (lv_at hl 2 rfl) ?_
                refine pu_X4_q hi hx hb hg hown kf_X4_44 hK hP hS dX4_change_94 (fun H locs hP hS => ?_)
                refine lv_goto (tgt := 106) hx hb dX4_change_97 (by decide) ?_
                exact g_vret hx hb hr hlocks hP hS dX4_change_106 hF
              · have hF := (if_neg c7).symm.trans hF
                refine sw_def (tgt := 100) [16, 17, 18, 19, 20, 21, 22] hx hb dX4_change_1 (List.forall_mem_cons.mpr ⟨c1, List.forall_mem_cons.mpr ⟨c2, List.forall_mem_cons.mpr ⟨c3, List.forall_mem_cons.mpr ⟨c4, List.forall_mem_cons.mpr ⟨c5, List.forall_mem_cons.mpr ⟨c6, List.forall_mem_cons.mpr ⟨c7, fun _ h => absurd h List.not_mem_nil⟩⟩⟩⟩⟩⟩⟩) (by decide) (by decide) ?_
                refine lv_aload_n hx hb dX4_change_100 rfl (lv_at hl 0 rfl) ?_
                refine lv_iload_n hx hb dX4_change_101 rfl (lv_at hl 1 rfl) ?_
                refine lv_iload_n hx hb dX4_change_102 rfl (lv_at hl 2 rfl) ?_
                refine g_Vv hx hb hml hown hg (c_X4_putRegister l dC dI cI cZ x hi _ _ _) cs_X4_56 rfl rfl ⟨Nat.le_of_ble_eq_true rfl, Nat.le_of_ble_eq_true rfl⟩ hK hP hS (q0 := 8) rfl rfl rfl hl.1 rfl (Nat.le_of_ble_eq_true rfl) dX4_change_103 ⟨Nat.zero_le _, Nat.zero_le _⟩ (fun H locs hP hS => ?_)
                exact g_vret hx hb hr hlocks hP hS dX4_change_106 hF
def f_X4_allowsInterrupt (u : BS) : Int32 :=
  if (bq_ie u) = 1 then
    1
  else
    0
set_option maxHeartbeats 4000000 in
set_option maxRecDepth 100000 in
theorem c_X4_allowsInterrupt (l : Launch) (dC : Nat → ClassId) (dI : Nat → Nat → Nat) (cI cZ : ClassId) (x : Nat → Nat) (hi : g_inj 13 x) (u : BS) : g_Mi l yX4_allowsInterrupt (.code yX4_allowsInterrupt cX4_allowsInterrupt 1 (some .boolean)) { frames := 0, cells := 0, slots := 0, locals := 0 } (dC, dI) vwCl (tysW cI cZ) (wB x cI cZ) (g_bA 13 x) u [.ref (x 8)] (f_X4_allowsInterrupt u) u := by
  refine Met.ofW (cc := cX4_allowsInterrupt) (maxL := 1) (ret := (some .boolean)) (by decide) rfl ?_
  intro p e s m args below meth c s₁ B hml hv
  obtain ⟨rfl, hP, hK⟩ := hv
  have hx := B.exec
  have hb := B.bytes
  have hr := B.returns
  have hts := atoms_spec (ws := .code yX4_allowsInterrupt cX4_allowsInterrupt 1 (some .boolean) :: gtbl) B.pre
  have hg : ∀ w ∈ gtbl, w.before _ s = true := fun w h => hts w (List.mem_cons_of_mem _ h)
  have hown : s.vm.findClass RX4 = some m.cls := findClass_of_methodNamed B.named
  have hlocks := B.notSynchronized
  have hS : va_S (g_bA 13 x) s.heap s.heap [] := va_S.rf
  have hl := lv_entry ([.ref (x 8)]) (n := 1) (Nat.le_of_ble_eq_true rfl)
  rw [lg_entry_eq]
  generalize (lg_sl ([.ref (x 8)]) ++ List.replicate (1 - (lg_sl ([.ref (x 8)])).length) Slot.unset).toArray = ls at hl ⊢
  have hl : lv_has ls 1 [(0, .ref (x 8))] := hl
  obtain ⟨F, hF⟩ : ∃ F, f_X4_allowsInterrupt u = F := ⟨_, rfl⟩
  rw [hF]
  refine lv_aload_n hx hb dX4_allowsInterrupt_0 rfl (lv_at hl 0 rfl) ?_
  refine ge_X4_ie hx hb hg hown kf_X4_13 hK hP dX4_allowsInterrupt_1 ?_
  refine lv_iconst (v := 1) hx hb dX4_allowsInterrupt_4 (by decide) ?_
  refine lv_icmp_ne (tgt := 12) hx hb dX4_allowsInterrupt_5 (by decide) (fun c1 => ?_) (fun c1 => ?_)
  · have hF := (if_neg c1).symm.trans hF
    refine lv_iconst (v := 0) hx hb dX4_allowsInterrupt_12 (by decide) ?_
    exact g_zret hx hb hr hlocks hP hS dX4_allowsInterrupt_13 rfl hF rfl
  · have hF := (if_pos c1).symm.trans hF
    refine lv_iconst (v := 1) hx hb dX4_allowsInterrupt_8 (by decide) ?_
    refine lv_goto (tgt := 13) hx hb dX4_allowsInterrupt_9 (by decide) ?_
    exact g_zret hx hb hr hlocks hP hS dX4_allowsInterrupt_13 rfl hF rfl
def f_X4_wake (u : BS) : BS :=
  let u1 : BS := bs_idle u 0
  u1
set_option maxHeartbeats 4000000 in
set_option maxRecDepth 100000 in
theorem c_X4_wake (l : Launch) (dC : Nat → ClassId) (dI : Nat → Nat → Nat) (cI cZ : ClassId) (x : Nat → Nat) (hi : g_inj 13 x) (u : BS) : g_Mv l yX4_wake (.code yX4_wake cX4_wake 1 none) { frames := 0, cells := 0, slots := 0, locals := 0 } (dC, dI) vwCl (tysW cI cZ) (wB x cI cZ) (g_bA 13 x) u [.ref (x 8)] (f_X4_wake u) := by
  refine Met.ofW (cc := cX4_wake) (maxL := 1) (ret := none) (by decide) rfl ?_
  intro p e s m args below meth c s₁ B hml hv
  obtain ⟨rfl, hP, hK⟩ := hv
  have hx := B.exec
  have hb := B.bytes
  have hr := B.returns
  have hts := atoms_spec (ws := .code yX4_wake cX4_wake 1 none :: gtbl) B.pre
  have hg : ∀ w ∈ gtbl, w.before _ s = true := fun w h => hts w (List.mem_cons_of_mem _ h)
  have hown : s.vm.findClass RX4 = some m.cls := findClass_of_methodNamed B.named
  have hlocks := B.notSynchronized
  have hS : va_S (g_bA 13 x) s.heap s.heap [] := va_S.rf
  have hl := lv_entry ([.ref (x 8)]) (n := 1) (Nat.le_of_ble_eq_true rfl)
  rw [lg_entry_eq]
  generalize (lg_sl ([.ref (x 8)]) ++ List.replicate (1 - (lg_sl ([.ref (x 8)])).length) Slot.unset).toArray = ls at hl ⊢
  have hl : lv_has ls 1 [(0, .ref (x 8))] := hl
  obtain ⟨F, hF⟩ : ∃ F, f_X4_wake u = F := ⟨_, rfl⟩
  rw [hF]
  refine lv_aload_n hx hb dX4_wake_0 rfl (lv_at hl 0 rfl) ?_
  refine lv_iconst (v := 0) hx hb dX4_wake_1 (by decide) ?_
  refine pu_X4_idle hi hx hb hg hown kf_X4_47 hK hP hS rfl rfl dX4_wake_2 (fun H locs hP hS => ?_)
  exact g_vret hx hb hr hlocks hP hS dX4_wake_5 hF
def f_X4_interrupt (u : BS) : BS :=
  let u1 : BS := bs_t u (((16 : Int32) * (bq_x u)) + (bq_p u))
  let u2 : BS := bs_x u1 2
  let u3 : BS := bs_p u2 1
  let u4 : BS := bs_ie u3 0
  let r5 : BS := f_X4_wake u4
  r5
set_option maxHeartbeats 4000000 in
set_option maxRecDepth 100000 in
theorem c_X4_interrupt (l : Launch) (dC : Nat → ClassId) (dI : Nat → Nat → Nat) (cI cZ : ClassId) (x : Nat → Nat) (hi : g_inj 13 x) (u : BS) : g_Mv l yX4_interrupt (.code yX4_interrupt cX4_interrupt 1 none) { frames := 1, cells := 0, slots := 0, locals := 20 } (dC, dI) vwCl (tysW cI cZ) (wB x cI cZ) (g_bA 13 x) u [.ref (x 8)] (f_X4_interrupt u) := by
  refine Met.ofW (cc := cX4_interrupt) (maxL := 1) (ret := none) (by decide) rfl ?_
  intro p e s m args below meth c s₁ B hml hv
  obtain ⟨rfl, hP, hK⟩ := hv
  have hx := B.exec
  have hb := B.bytes
  have hr := B.returns
  have hts := atoms_spec (ws := .code yX4_interrupt cX4_interrupt 1 none :: gtbl) B.pre
  have hg : ∀ w ∈ gtbl, w.before _ s = true := fun w h => hts w (List.mem_cons_of_mem _ h)
  have hown : s.vm.findClass RX4 = some m.cls := findClass_of_methodNamed B.named
  have hlocks := B.notSynchronized
  have hS : va_S (g_bA 13 x) s.heap s.heap [] := va_S.rf
  have hl := lv_entry ([.ref (x 8)]) (n := 1) (Nat.le_of_ble_eq_true rfl)
  rw [lg_entry_eq]
  generalize (lg_sl ([.ref (x 8)]) ++ List.replicate (1 - (lg_sl ([.ref (x 8)])).length) Slot.unset).toArray = ls at hl ⊢
  have hl : lv_has ls 1 [(0, .ref (x 8))] := hl
  obtain ⟨F, hF⟩ : ∃ F, f_X4_interrupt u = F := ⟨_, rfl⟩
  rw [hF]
  refine lv_aload_n hx hb dX4_interrupt_0 rfl (lv_at hl 0 rfl) ?_
  refine lv_bipush (v := 16) hx hb dX4_interrupt_1 (by decide) ?_
  refine lv_aload_n hx hb dX4_interrupt_3 rfl (lv_at hl 0 rfl) ?_
  refine ge_X4_x hx hb hg hown kf_X4_38 hK hP dX4_interrupt_4 ?_
  refine lv_imul hx hb dX4_interrupt_7 ?_
  refine lv_aload_n hx hb dX4_interrupt_8 rfl (lv_at hl 0 rfl) ?_
  refine ge_X4_p hx hb hg hown kf_X4_35 hK hP dX4_interrupt_9 ?_
  refine lv_iadd hx hb dX4_interrupt_12 ?_
  refine pu_X4_t hi hx hb hg hown kf_X4_41 hK hP hS dX4_interrupt_13 (fun H locs hP hS => ?_)
  refine lv_aload_n hx hb dX4_interrupt_16 rfl (lv_at hl 0 rfl) ?_
  refine lv_iconst (v := 2) hx hb dX4_interrupt_17 (by decide) ?_
  refine pu_X4_x hi hx hb hg hown kf_X4_38 hK hP hS dX4_interrupt_18 (fun H locs hP hS => ?_)
  refine lv_aload_n hx hb dX4_interrupt_21 rfl (lv_at hl 0 rfl) ?_
  refine lv_iconst (v := 1) hx hb dX4_interrupt_22 (by decide) ?_
  refine pu_X4_p hi hx hb hg hown kf_X4_35 hK hP hS dX4_interrupt_23 (fun H locs hP hS => ?_)
  refine lv_aload_n hx hb dX4_interrupt_26 rfl (lv_at hl 0 rfl) ?_
  refine lv_iconst (v := 0) hx hb dX4_interrupt_27 (by decide) ?_
  refine pu_X4_ie hi hx hb hg hown kf_X4_13 hK hP hS dX4_interrupt_28 (fun H locs hP hS => ?_)
  refine lv_aload_n hx hb dX4_interrupt_31 rfl (lv_at hl 0 rfl) ?_
  refine g_Vv hx hb hml hown hg (c_X4_wake l dC dI cI cZ x hi _) cs_X4_60 rfl rfl ⟨Nat.le_of_ble_eq_true rfl, Nat.le_of_ble_eq_true rfl⟩ hK hP hS (q0 := 8) rfl rfl rfl hl.1 rfl (Nat.le_of_ble_eq_true rfl) dX4_interrupt_32 ⟨Nat.zero_le _, Nat.zero_le _⟩ (fun H locs hP hS => ?_)
  exact g_vret hx hb hr hlocks hP hS dX4_interrupt_35 hF
def f_X4_take (u : BS) (p0 : Int32) : Int32 × BS :=
  let t1 : Int32 := (bq_regs u ((p0 &&& 15)).toNatClampNeg)
  let u2 : BS := bs_regs u (upd (bq_regs u) ((p0 &&& 15)).toNatClampNeg ((t1 + 1) &&& 65535))
  ((f_X2_read u2 t1), u2)
set_option maxHeartbeats 4000000 in
set_option maxRecDepth 100000 in
theorem c_X4_take (l : Launch) (dC : Nat → ClassId) (dI : Nat → Nat → Nat) (cI cZ : ClassId) (x : Nat → Nat) (hi : g_inj 13 x) (u : BS) (p0 : Int32) : g_Mi l yX4_take (.code yX4_take cX4_take 3 (some .int)) { frames := 1, cells := 0, slots := 0, locals := 21 } (dC, dI) vwCl (tysW cI cZ) (wB x cI cZ) (g_bA 13 x) u [.ref (x 8), .int p0] (f_X4_take u p0).1 (f_X4_take u p0).2 := by
  refine Met.ofW (cc := cX4_take) (maxL := 3) (ret := (some .int)) (by decide) rfl ?_
  intro p e s m args below meth c s₁ B hml hv
  obtain ⟨rfl, hP, hK⟩ := hv
  have hx := B.exec
  have hb := B.bytes
  have hr := B.returns
  have hts := atoms_spec (ws := .code yX4_take cX4_take 3 (some .int) :: gtbl) B.pre
  have hg : ∀ w ∈ gtbl, w.before _ s = true := fun w h => hts w (List.mem_cons_of_mem _ h)
  have hown : s.vm.findClass RX4 = some m.cls := findClass_of_methodNamed B.named
  have hlocks := B.notSynchronized
  have hS : va_S (g_bA 13 x) s.heap s.heap [] := va_S.rf
  have hl := lv_entry ([.ref (x 8), .int p0]) (n := 3) (Nat.le_of_ble_eq_true rfl)
  rw [lg_entry_eq]
  generalize (lg_sl ([.ref (x 8), .int p0]) ++ List.replicate (3 - (lg_sl ([.ref (x 8), .int p0])).length) Slot.unset).toArray = ls at hl ⊢
  have hl : lv_has ls 3 [(0, .ref (x 8)), (1, .int p0)] := hl
  obtain ⟨F, hF⟩ : ∃ F, f_X4_take u p0 = F := ⟨_, rfl⟩
  rw [hF]
  refine lv_aload_n hx hb dX4_take_0 rfl (lv_at hl 0 rfl) ?_
  refine ge_X4_registers hx hb hg hown kf_X4_9 hK hP dX4_take_1 ?_
  refine lv_iload_n hx hb dX4_take_4 rfl (lv_at hl 1 rfl) ?_
  refine lv_bipush (v := 15) hx hb dX4_take_5 (by decide) ?_
  refine lv_iand hx hb dX4_take_7 ?_
  refine bl_regs hx hb hK hP (pk_andIn _ 4 rfl (by decide)) dX4_take_8 ?_
  refine lv_istore_n hx hb dX4_take_9 rfl hl (by decide) rfl (fun ls hl => ?_)
  have hl : lv_has ls 3 [(2, _), (0, _), (1, _)] := hl
  refine lv_aload_n hx hb dX4_take_10 rfl (lv_at hl 1 rfl) ?_
  refine ge_X4_registers hx hb hg hown kf_X4_9 hK hP dX4_take_11 ?_
  refine lv_iload_n hx hb dX4_take_14 rfl (lv_at hl 2 rfl) ?_
  refine lv_bipush (v := 15) hx hb dX4_take_15 (by decide) ?_
  refine lv_iand hx hb dX4_take_17 ?_
  refine lv_iload_n hx hb dX4_take_18 rfl (lv_at hl 0 rfl) ?_
  refine lv_iconst (v := 1) hx hb dX4_take_19 (by decide) ?_
  refine lv_iadd hx hb dX4_take_20 ?_
  refine lv_ldc (v := 65535) hx hb hown (hg _ kd_X4_55) dX4_take_21 ?_
  refine lv_iand hx hb dX4_take_23 ?_
  refine ba_regs hi hx hb hK hP hS (pk_andIn _ 4 rfl (by decide)) dX4_take_24 (fun H locs hP hS => ?_)
  refine lv_aload_n hx hb dX4_take_25 rfl (lv_at hl 1 rfl) ?_
  refine ge_X4_memory hx hb hg hown kf_X4_17 hK hP dX4_take_26 ?_
  refine lv_iload_n hx hb dX4_take_29 rfl (lv_at hl 0 rfl) ?_
  refine g_Vi hx hb hml hown hg (c_X2_read l dC dI cI cZ x hi _ _) cs_X4_69 rfl rfl ⟨Nat.le_of_ble_eq_true rfl, Nat.le_of_ble_eq_true rfl⟩ hK hP hS (q0 := 1) rfl rfl rfl hl.1 rfl (Nat.le_of_ble_eq_true rfl) dX4_take_30 ⟨Nat.zero_le _, Nat.zero_le _⟩ (fun H locs hP hS => ?_)
  have hF : (_, _) = F := hF
  exact g_iret hx hb hr hlocks hP hS dX4_take_33 (g_p1 hF) (g_p2 hF)
def f_X4_takeByte (u : BS) : Int32 × BS :=
  let r1 : Int32 × BS := f_X4_take u 0
  (r1.1, r1.2)
set_option maxHeartbeats 4000000 in
set_option maxRecDepth 100000 in
theorem c_X4_takeByte (l : Launch) (dC : Nat → ClassId) (dI : Nat → Nat → Nat) (cI cZ : ClassId) (x : Nat → Nat) (hi : g_inj 13 x) (u : BS) : g_Mi l yX4_takeByte (.code yX4_takeByte cX4_takeByte 1 (some .int)) { frames := 2, cells := 0, slots := 0, locals := 43 } (dC, dI) vwCl (tysW cI cZ) (wB x cI cZ) (g_bA 13 x) u [.ref (x 8)] (f_X4_takeByte u).1 (f_X4_takeByte u).2 := by
  refine Met.ofW (cc := cX4_takeByte) (maxL := 1) (ret := (some .int)) (by decide) rfl ?_
  intro p e s m args below meth c s₁ B hml hv
  obtain ⟨rfl, hP, hK⟩ := hv
  have hx := B.exec
  have hb := B.bytes
  have hr := B.returns
  have hts := atoms_spec (ws := .code yX4_takeByte cX4_takeByte 1 (some .int) :: gtbl) B.pre
  have hg : ∀ w ∈ gtbl, w.before _ s = true := fun w h => hts w (List.mem_cons_of_mem _ h)
  have hown : s.vm.findClass RX4 = some m.cls := findClass_of_methodNamed B.named
  have hlocks := B.notSynchronized
  have hS : va_S (g_bA 13 x) s.heap s.heap [] := va_S.rf
  have hl := lv_entry ([.ref (x 8)]) (n := 1) (Nat.le_of_ble_eq_true rfl)
  rw [lg_entry_eq]
  generalize (lg_sl ([.ref (x 8)]) ++ List.replicate (1 - (lg_sl ([.ref (x 8)])).length) Slot.unset).toArray = ls at hl ⊢
  have hl : lv_has ls 1 [(0, .ref (x 8))] := hl
  obtain ⟨F, hF⟩ : ∃ F, f_X4_takeByte u = F := ⟨_, rfl⟩
  rw [hF]
  refine lv_aload_n hx hb dX4_takeByte_0 rfl (lv_at hl 0 rfl) ?_
  refine lv_iconst (v := 0) hx hb dX4_takeByte_1 (by decide) ?_
  refine g_Vi hx hb hml hown hg (c_X4_take l dC dI cI cZ x hi _ _) cs_X4_63 rfl rfl ⟨Nat.le_of_ble_eq_true rfl, Nat.le_of_ble_eq_true rfl⟩ hK hP hS (q0 := 8) rfl rfl rfl hl.1 rfl (Nat.le_of_ble_eq_true rfl) dX4_takeByte_2 ⟨Nat.zero_le _, Nat.zero_le _⟩ (fun H locs hP hS => ?_)
  have hF : (_, _) = F := hF
  exact g_iret hx hb hr hlocks hP hS dX4_takeByte_5 (g_p1 hF) (g_p2 hF)
def f_X4_grow (u : BS) (p0 : Int32) (p1 : Int32) : BS :=
  let r1 : BS := f_X4_putRegister u p0 ((f_X4_register u p0) + p1)
  r1
set_option maxHeartbeats 4000000 in
set_option maxRecDepth 100000 in
theorem c_X4_grow (l : Launch) (dC : Nat → ClassId) (dI : Nat → Nat → Nat) (cI cZ : ClassId) (x : Nat → Nat) (hi : g_inj 13 x) (u : BS) (p0 : Int32) (p1 : Int32) : g_Mv l yX4_grow (.code yX4_grow cX4_grow 3 none) { frames := 1, cells := 0, slots := 0, locals := 22 } (dC, dI) vwCl (tysW cI cZ) (wB x cI cZ) (g_bA 13 x) u [.ref (x 8), .int p0, .int p1] (f_X4_grow u p0 p1) := by
  refine Met.ofW (cc := cX4_grow) (maxL := 3) (ret := none) (by decide) rfl ?_
  intro p e s m args below meth c s₁ B hml hv
  obtain ⟨rfl, hP, hK⟩ := hv
  have hx := B.exec
  have hb := B.bytes
  have hr := B.returns
  have hts := atoms_spec (ws := .code yX4_grow cX4_grow 3 none :: gtbl) B.pre
  have hg : ∀ w ∈ gtbl, w.before _ s = true := fun w h => hts w (List.mem_cons_of_mem _ h)
  have hown : s.vm.findClass RX4 = some m.cls := findClass_of_methodNamed B.named
  have hlocks := B.notSynchronized
  have hS : va_S (g_bA 13 x) s.heap s.heap [] := va_S.rf
  have hl := lv_entry ([.ref (x 8), .int p0, .int p1]) (n := 3) (Nat.le_of_ble_eq_true rfl)
  rw [lg_entry_eq]
  generalize (lg_sl ([.ref (x 8), .int p0, .int p1]) ++ List.replicate (3 - (lg_sl ([.ref (x 8), .int p0, .int p1])).length) Slot.unset).toArray = ls at hl ⊢
  have hl : lv_has ls 3 [(0, .ref (x 8)), (1, .int p0), (2, .int p1)] := hl
  obtain ⟨F, hF⟩ : ∃ F, f_X4_grow u p0 p1 = F := ⟨_, rfl⟩
  rw [hF]
  refine lv_aload_n hx hb dX4_grow_0 rfl (lv_at hl 0 rfl) ?_
  refine lv_iload_n hx hb dX4_grow_1 rfl (lv_at hl 1 rfl) ?_
  refine lv_aload_n hx hb dX4_grow_2 rfl (lv_at hl 0 rfl) ?_
  refine lv_iload_n hx hb dX4_grow_3 rfl (lv_at hl 1 rfl) ?_
  refine g_Vi hx hb hml hown hg (c_X4_register l dC dI cI cZ x hi _ _) cs_X4_51 rfl rfl ⟨Nat.le_of_ble_eq_true rfl, Nat.le_of_ble_eq_true rfl⟩ hK hP hS (q0 := 8) rfl rfl rfl hl.1 rfl (Nat.le_of_ble_eq_true rfl) dX4_grow_4 ⟨Nat.zero_le _, Nat.zero_le _⟩ (fun H locs hP hS => ?_)
  refine lv_iload_n hx hb dX4_grow_7 rfl (lv_at hl 2 rfl) ?_
  refine lv_iadd hx hb dX4_grow_8 ?_
  refine g_Vv hx hb hml hown hg (c_X4_putRegister l dC dI cI cZ x hi _ _ _) cs_X4_56 rfl rfl ⟨Nat.le_of_ble_eq_true rfl, Nat.le_of_ble_eq_true rfl⟩ hK hP hS (q0 := 8) rfl rfl rfl hl.1 rfl (Nat.le_of_ble_eq_true rfl) dX4_grow_9 ⟨Nat.zero_le _, Nat.zero_le _⟩ (fun H locs hP hS => ?_)
  exact g_vret hx hb hr hlocks hP hS dX4_grow_12 hF
def f_X4_at (u : BS) (p0 : Int32) : Int32 :=
  (f_X2_read u (f_X4_register u p0))
set_option maxHeartbeats 4000000 in
set_option maxRecDepth 100000 in
theorem c_X4_at (l : Launch) (dC : Nat → ClassId) (dI : Nat → Nat → Nat) (cI cZ : ClassId) (x : Nat → Nat) (hi : g_inj 13 x) (u : BS) (p0 : Int32) : g_Mi l yX4_at (.code yX4_at cX4_at 2 (some .int)) { frames := 1, cells := 0, slots := 0, locals := 21 } (dC, dI) vwCl (tysW cI cZ) (wB x cI cZ) (g_bA 13 x) u [.ref (x 8), .int p0] (f_X4_at u p0) u := by
  refine Met.ofW (cc := cX4_at) (maxL := 2) (ret := (some .int)) (by decide) rfl ?_
  intro p e s m args below meth c s₁ B hml hv
  obtain ⟨rfl, hP, hK⟩ := hv
  have hx := B.exec
  have hb := B.bytes
  have hr := B.returns
  have hts := atoms_spec (ws := .code yX4_at cX4_at 2 (some .int) :: gtbl) B.pre
  have hg : ∀ w ∈ gtbl, w.before _ s = true := fun w h => hts w (List.mem_cons_of_mem _ h)
  have hown : s.vm.findClass RX4 = some m.cls := findClass_of_methodNamed B.named
  have hlocks := B.notSynchronized
  have hS : va_S (g_bA 13 x) s.heap s.heap [] := va_S.rf
  have hl := lv_entry ([.ref (x 8), .int p0]) (n := 2) (Nat.le_of_ble_eq_true rfl)
  rw [lg_entry_eq]
  generalize (lg_sl ([.ref (x 8), .int p0]) ++ List.replicate (2 - (lg_sl ([.ref (x 8), .int p0])).length) Slot.unset).toArray = ls at hl ⊢
  have hl : lv_has ls 2 [(0, .ref (x 8)), (1, .int p0)] := hl
  obtain ⟨F, hF⟩ : ∃ F, f_X4_at u p0 = F := ⟨_, rfl⟩
  rw [hF]
  refine lv_aload_n hx hb dX4_at_0 rfl (lv_at hl 0 rfl) ?_
  refine ge_X4_memory hx hb hg hown kf_X4_17 hK hP dX4_at_1 ?_
  refine lv_aload_n hx hb dX4_at_4 rfl (lv_at hl 0 rfl) ?_
  refine lv_iload_n hx hb dX4_at_5 rfl (lv_at hl 1 rfl) ?_
  refine g_Vi hx hb hml hown hg (c_X4_register l dC dI cI cZ x hi _ _) cs_X4_51 rfl rfl ⟨Nat.le_of_ble_eq_true rfl, Nat.le_of_ble_eq_true rfl⟩ hK hP hS (q0 := 8) rfl rfl rfl hl.1 rfl (Nat.le_of_ble_eq_true rfl) dX4_at_6 ⟨Nat.zero_le _, Nat.zero_le _⟩ (fun H locs hP hS => ?_)
  refine g_Vi hx hb hml hown hg (c_X2_read l dC dI cI cZ x hi _ _) cs_X4_69 rfl rfl ⟨Nat.le_of_ble_eq_true rfl, Nat.le_of_ble_eq_true rfl⟩ hK hP hS (q0 := 1) rfl rfl rfl hl.1 rfl (Nat.le_of_ble_eq_true rfl) dX4_at_9 ⟨Nat.zero_le _, Nat.zero_le _⟩ (fun H locs hP hS => ?_)
  exact g_iret hx hb hr hlocks hP hS dX4_at_12 hF rfl
def f_X4_putAt (u : BS) (p0 : Int32) (p1 : Int32) : BS :=
  let r1 : BS := f_X2_write u (f_X4_register u p0) p1
  r1
set_option maxHeartbeats 4000000 in
set_option maxRecDepth 100000 in
theorem c_X4_putAt (l : Launch) (dC : Nat → ClassId) (dI : Nat → Nat → Nat) (cI cZ : ClassId) (x : Nat → Nat) (hi : g_inj 13 x) (u : BS) (p0 : Int32) (p1 : Int32) : g_Mv l yX4_putAt (.code yX4_putAt cX4_putAt 3 none) { frames := 1, cells := 0, slots := 0, locals := 22 } (dC, dI) vwCl (tysW cI cZ) (wB x cI cZ) (g_bA 13 x) u [.ref (x 8), .int p0, .int p1] (f_X4_putAt u p0 p1) := by
  refine Met.ofW (cc := cX4_putAt) (maxL := 3) (ret := none) (by decide) rfl ?_
  intro p e s m args below meth c s₁ B hml hv
  obtain ⟨rfl, hP, hK⟩ := hv
  have hx := B.exec
  have hb := B.bytes
  have hr := B.returns
  have hts := atoms_spec (ws := .code yX4_putAt cX4_putAt 3 none :: gtbl) B.pre
  have hg : ∀ w ∈ gtbl, w.before _ s = true := fun w h => hts w (List.mem_cons_of_mem _ h)
  have hown : s.vm.findClass RX4 = some m.cls := findClass_of_methodNamed B.named
  have hlocks := B.notSynchronized
  have hS : va_S (g_bA 13 x) s.heap s.heap [] := va_S.rf
  have hl := lv_entry ([.ref (x 8), .int p0, .int p1]) (n := 3) (Nat.le_of_ble_eq_true rfl)
  rw [lg_entry_eq]
  generalize (lg_sl ([.ref (x 8), .int p0, .int p1]) ++ List.replicate (3 - (lg_sl ([.ref (x 8), .int p0, .int p1])).length) Slot.unset).toArray = ls at hl ⊢
  have hl : lv_has ls 3 [(0, .ref (x 8)), (1, .int p0), (2, .int p1)] := hl
  obtain ⟨F, hF⟩ : ∃ F, f_X4_putAt u p0 p1 = F := ⟨_, rfl⟩
  rw [hF]
  refine lv_aload_n hx hb dX4_putAt_0 rfl (lv_at hl 0 rfl) ?_
  refine ge_X4_memory hx hb hg hown kf_X4_17 hK hP dX4_putAt_1 ?_
  refine lv_aload_n hx hb dX4_putAt_4 rfl (lv_at hl 0 rfl) ?_
  refine lv_iload_n hx hb dX4_putAt_5 rfl (lv_at hl 1 rfl) ?_
  refine g_Vi hx hb hml hown hg (c_X4_register l dC dI cI cZ x hi _ _) cs_X4_51 rfl rfl ⟨Nat.le_of_ble_eq_true rfl, Nat.le_of_ble_eq_true rfl⟩ hK hP hS (q0 := 8) rfl rfl rfl hl.1 rfl (Nat.le_of_ble_eq_true rfl) dX4_putAt_6 ⟨Nat.zero_le _, Nat.zero_le _⟩ (fun H locs hP hS => ?_)
  refine lv_iload_n hx hb dX4_putAt_9 rfl (lv_at hl 2 rfl) ?_
  refine g_Vv hx hb hml hown hg (c_X2_write l dC dI cI cZ x hi _ _ _) cs_X4_74 rfl rfl ⟨Nat.le_of_ble_eq_true rfl, Nat.le_of_ble_eq_true rfl⟩ hK hP hS (q0 := 1) rfl rfl rfl hl.1 rfl (Nat.le_of_ble_eq_true rfl) dX4_putAt_10 ⟨Nat.zero_le _, Nat.zero_le _⟩ (fun H locs hP hS => ?_)
  exact g_vret hx hb hr hlocks hP hS dX4_putAt_13 hF
def f_X4_loadOrIdle (u : BS) (p0 : Int32) : BS :=
  if p0 = 0 then
    let u1 : BS := bs_idle u 1
    u1
  else
    let u2 : BS := bs_d u (f_X4_at u p0)
    u2
set_option maxHeartbeats 4000000 in
set_option maxRecDepth 100000 in
theorem c_X4_loadOrIdle (l : Launch) (dC : Nat → ClassId) (dI : Nat → Nat → Nat) (cI cZ : ClassId) (x : Nat → Nat) (hi : g_inj 13 x) (u : BS) (p0 : Int32) : g_Mv l yX4_loadOrIdle (.code yX4_loadOrIdle cX4_loadOrIdle 2 none) { frames := 2, cells := 0, slots := 0, locals := 42 } (dC, dI) vwCl (tysW cI cZ) (wB x cI cZ) (g_bA 13 x) u [.ref (x 8), .int p0] (f_X4_loadOrIdle u p0) := by
  refine Met.ofW (cc := cX4_loadOrIdle) (maxL := 2) (ret := none) (by decide) rfl ?_
  intro p e s m args below meth c s₁ B hml hv
  obtain ⟨rfl, hP, hK⟩ := hv
  have hx := B.exec
  have hb := B.bytes
  have hr := B.returns
  have hts := atoms_spec (ws := .code yX4_loadOrIdle cX4_loadOrIdle 2 none :: gtbl) B.pre
  have hg : ∀ w ∈ gtbl, w.before _ s = true := fun w h => hts w (List.mem_cons_of_mem _ h)
  have hown : s.vm.findClass RX4 = some m.cls := findClass_of_methodNamed B.named
  have hlocks := B.notSynchronized
  have hS : va_S (g_bA 13 x) s.heap s.heap [] := va_S.rf
  have hl := lv_entry ([.ref (x 8), .int p0]) (n := 2) (Nat.le_of_ble_eq_true rfl)
  rw [lg_entry_eq]
  generalize (lg_sl ([.ref (x 8), .int p0]) ++ List.replicate (2 - (lg_sl ([.ref (x 8), .int p0])).length) Slot.unset).toArray = ls at hl ⊢
  have hl : lv_has ls 2 [(0, .ref (x 8)), (1, .int p0)] := hl
  obtain ⟨F, hF⟩ : ∃ F, f_X4_loadOrIdle u p0 = F := ⟨_, rfl⟩
  rw [hF]
  refine lv_iload_n hx hb dX4_loadOrIdle_0 rfl (lv_at hl 1 rfl) ?_
  refine lv_if_ne (tgt := 12) hx hb dX4_loadOrIdle_1 (by decide) (fun c1 => ?_) (fun c1 => ?_)
  · have hF := (if_neg c1).symm.trans hF
    refine lv_aload_n hx hb dX4_loadOrIdle_12 rfl (lv_at hl 0 rfl) ?_
    refine lv_aload_n hx hb dX4_loadOrIdle_13 rfl (lv_at hl 0 rfl) ?_
    refine lv_iload_n hx hb dX4_loadOrIdle_14 rfl (lv_at hl 1 rfl) ?_
    refine g_Vi hx hb hml hown hg (c_X4_at l dC dI cI cZ x hi _ _) cs_X4_103 rfl rfl ⟨Nat.le_of_ble_eq_true rfl, Nat.le_of_ble_eq_true rfl⟩ hK hP hS (q0 := 8) rfl rfl rfl hl.1 rfl (Nat.le_of_ble_eq_true rfl) dX4_loadOrIdle_15 ⟨Nat.zero_le _, Nat.zero_le _⟩ (fun H locs hP hS => ?_)
    refine pu_X4_d hi hx hb hg hown kf_X4_29 hK hP hS dX4_loadOrIdle_18 (fun H locs hP hS => ?_)
    exact g_vret hx hb hr hlocks hP hS dX4_loadOrIdle_21 hF
  · have hF := (if_pos c1).symm.trans hF
    refine lv_aload_n hx hb dX4_loadOrIdle_4 rfl (lv_at hl 0 rfl) ?_
    refine lv_iconst (v := 1) hx hb dX4_loadOrIdle_5 (by decide) ?_
    refine pu_X4_idle hi hx hb hg hown kf_X4_47 hK hP hS rfl rfl dX4_loadOrIdle_6 (fun H locs hP hS => ?_)
    refine lv_goto (tgt := 21) hx hb dX4_loadOrIdle_9 (by decide) ?_
    exact g_vret hx hb hr hlocks hP hS dX4_loadOrIdle_21 hF
def f_X4_holds (u : BS) (p0 : Int32) : Int32 :=
  if p0 < 8 then
    if (p0 &&& 7) = 0 then
      1
    else
      if (p0 &&& 7) = 1 then
        if (bq_q u) = 1 then
          1
        else
          0
      else
        if (p0 &&& 7) = 2 then
          if (bq_d u) = 0 then
            1
          else
            0
        else
          if (p0 &&& 7) = 3 then
            if (bq_df u) = 1 then
              1
            else
              0
          else
            if (p0 &&& 7) = 4 then
              if (f_X3_flag u) = 0 then
                0
              else
                1
            else
              if (p0 &&& 7) = 6 then
                if (f_X0_askedIsDown u) = 0 then
                  0
                else
                  1
              else
                0
  else
    if (p0 &&& 7) = 0 then
      0
    else
      if (p0 &&& 7) = 1 then
        if (bq_q u) = 1 then
          0
        else
          1
      else
        if (p0 &&& 7) = 2 then
          if (bq_d u) = 0 then
            0
          else
            1
        else
          if (p0 &&& 7) = 3 then
            if (bq_df u) = 1 then
              0
            else
              1
          else
            if (p0 &&& 7) = 4 then
              if (f_X3_flag u) = 1 then
                0
              else
                1
            else
              if (p0 &&& 7) = 6 then
                if (f_X0_askedIsDown u) = 1 then
                  0
                else
                  1
              else
                1
set_option maxHeartbeats 4000000 in
set_option maxRecDepth 100000 in
theorem c_X4_holds (l : Launch) (dC : Nat → ClassId) (dI : Nat → Nat → Nat) (cI cZ : ClassId) (x : Nat → Nat) (hi : g_inj 13 x) (u : BS) (p0 : Int32) : g_Mi l yX4_holds (.code yX4_holds cX4_holds 3 (some .boolean)) { frames := 1, cells := 0, slots := 0, locals := 20 } (dC, dI) vwCl (tysW cI cZ) (wB x cI cZ) (g_bA 13 x) u [.ref (x 8), .int p0] (f_X4_holds u p0) u := by
  refine Met.ofW (cc := cX4_holds) (maxL := 3) (ret := (some .boolean)) (by decide) rfl ?_
  intro p e s m args below meth c s₁ B hml hv
  obtain ⟨rfl, hP, hK⟩ := hv
  have hx := B.exec
  have hb := B.bytes
  have hr := B.returns
  have hts := atoms_spec (ws := .code yX4_holds cX4_holds 3 (some .boolean) :: gtbl) B.pre
  have hg : ∀ w ∈ gtbl, w.before _ s = true := fun w h => hts w (List.mem_cons_of_mem _ h)
  have hown : s.vm.findClass RX4 = some m.cls := findClass_of_methodNamed B.named
  have hlocks := B.notSynchronized
  have hS : va_S (g_bA 13 x) s.heap s.heap [] := va_S.rf
  have hl := lv_entry ([.ref (x 8), .int p0]) (n := 3) (Nat.le_of_ble_eq_true rfl)
  rw [lg_entry_eq]
  generalize (lg_sl ([.ref (x 8), .int p0]) ++ List.replicate (3 - (lg_sl ([.ref (x 8), .int p0])).length) Slot.unset).toArray = ls at hl ⊢
  have hl : lv_has ls 3 [(0, .ref (x 8)), (1, .int p0)] := hl
  obtain ⟨F, hF⟩ : ∃ F, f_X4_holds u p0 = F := ⟨_, rfl⟩
  rw [hF]
  refine lv_iload_n hx hb dX4_holds_0 rfl (lv_at hl 1 rfl) ?_
  refine lv_bipush (v := 8) hx hb dX4_holds_1 (by decide) ?_
  refine lv_icmp_lt (tgt := 10) hx hb dX4_holds_3 (by decide) (fun c1 => ?_) (fun c1 => ?_)
  · have hF := (if_pos c1).symm.trans hF
    refine lv_iconst (v := 0) hx hb dX4_holds_10 (by decide) ?_
    refine lv_istore_n hx hb dX4_holds_11 rfl hl (by decide) rfl (fun ls hl => ?_)
    have hl : lv_has ls 3 [(2, _), (0, _), (1, _)] := hl
    refine lv_iload_n hx hb dX4_holds_12 rfl (lv_at hl 2 rfl) ?_
    refine lv_bipush (v := 7) hx hb dX4_holds_13 (by decide) ?_
    refine lv_iand hx hb dX4_holds_15 ?_
    refine sw_case (v := 0) (fun c2 => ?_) (fun c2 => ?_)
    · have hF := (if_pos c2).symm.trans hF
      refine sw_in (off := 44) (tgt := 60) 0 hx hb dX4_holds_16 c2 (by decide) (by decide) ?_
      refine lv_iload_n hx hb dX4_holds_60 rfl (lv_at hl 0 rfl) ?_
      refine lv_if_ne (tgt := 68) hx hb dX4_holds_61 (by decide) (fun c3 => ?_) (fun c3 => ?_)
      · exact absurd c3 (by decide)
      · refine lv_iconst (v := 1) hx hb dX4_holds_64 (by decide) ?_
        refine lv_goto (tgt := 69) hx hb dX4_holds_65 (by decide) ?_
        exact g_zret hx hb hr hlocks hP hS dX4_holds_69 rfl hF rfl
    · have hF := (if_neg c2).symm.trans hF
      refine sw_case (v := 1) (fun c4 => ?_) (fun c4 => ?_)
      · have hF := (if_pos c4).symm.trans hF
        refine sw_in (off := 54) (tgt := 70) 1 hx hb dX4_holds_16 c4 (by decide) (by decide) ?_
        refine lv_aload_n hx hb dX4_holds_70 rfl (lv_at hl 1 rfl) ?_
        refine ge_X4_q hx hb hg hown kf_X4_44 hK hP dX4_holds_71 ?_
        refine lv_iconst (v := 1) hx hb dX4_holds_74 (by decide) ?_
        refine lv_icmp_ne (tgt := 82) hx hb dX4_holds_75 (by decide) (fun c5 => ?_) (fun c5 => ?_)
        · have hF := (if_neg c5).symm.trans hF
          refine lv_iconst (v := 0) hx hb dX4_holds_82 (by decide) ?_
          refine lv_iload_n hx hb dX4_holds_83 rfl (lv_at hl 0 rfl) ?_
          refine lv_icmp_eq (tgt := 91) hx hb dX4_holds_84 (by decide) (fun c7 => ?_) (fun c7 => ?_)
          · refine lv_iconst (v := 0) hx hb dX4_holds_91 (by decide) ?_
            exact g_zret hx hb hr hlocks hP hS dX4_holds_92 rfl hF rfl
          · exact absurd c7 (by decide)
        · have hF := (if_pos c5).symm.trans hF
          refine lv_iconst (v := 1) hx hb dX4_holds_78 (by decide) ?_
          refine lv_goto (tgt := 83) hx hb dX4_holds_79 (by decide) ?_
          refine lv_iload_n hx hb dX4_holds_83 rfl (lv_at hl 0 rfl) ?_
          refine lv_icmp_eq (tgt := 91) hx hb dX4_holds_84 (by decide) (fun c6 => ?_) (fun c6 => ?_)
          · exact absurd c6 (by decide)
          · refine lv_iconst (v := 1) hx hb dX4_holds_87 (by decide) ?_
            refine lv_goto (tgt := 92) hx hb dX4_holds_88 (by decide) ?_
            exact g_zret hx hb hr hlocks hP hS dX4_holds_92 rfl hF rfl
      · have hF := (if_neg c4).symm.trans hF
        refine sw_case (v := 2) (fun c8 => ?_) (fun c8 => ?_)
        · have hF := (if_pos c8).symm.trans hF
          refine sw_in (off := 77) (tgt := 93) 2 hx hb dX4_holds_16 c8 (by decide) (by decide) ?_
          refine lv_aload_n hx hb dX4_holds_93 rfl (lv_at hl 1 rfl) ?_
          refine ge_X4_d hx hb hg hown kf_X4_29 hK hP dX4_holds_94 ?_
          refine lv_if_ne (tgt := 104) hx hb dX4_holds_97 (by decide) (fun c9 => ?_) (fun c9 => ?_)
          · have hF := (if_neg c9).symm.trans hF
            refine lv_iconst (v := 0) hx hb dX4_holds_104 (by decide) ?_
            refine lv_iload_n hx hb dX4_holds_105 rfl (lv_at hl 0 rfl) ?_
            refine lv_icmp_eq (tgt := 113) hx hb dX4_holds_106 (by decide) (fun c11 => ?_) (fun c11 => ?_)
            · refine lv_iconst (v := 0) hx hb dX4_holds_113 (by decide) ?_
              exact g_zret hx hb hr hlocks hP hS dX4_holds_114 rfl hF rfl
            · exact absurd c11 (by decide)
          · have hF := (if_pos c9).symm.trans hF
            refine lv_iconst (v := 1) hx hb dX4_holds_100 (by decide) ?_
            refine lv_goto (tgt := 105) hx hb dX4_holds_101 (by decide) ?_
            refine lv_iload_n hx hb dX4_holds_105 rfl (lv_at hl 0 rfl) ?_
            refine lv_icmp_eq (tgt := 113) hx hb dX4_holds_106 (by decide) (fun c10 => ?_) (fun c10 => ?_)
            · exact absurd c10 (by decide)
            · refine lv_iconst (v := 1) hx hb dX4_holds_109 (by decide) ?_
              refine lv_goto (tgt := 114) hx hb dX4_holds_110 (by decide) ?_
              exact g_zret hx hb hr hlocks hP hS dX4_holds_114 rfl hF rfl
        · have hF := (if_neg c8).symm.trans hF
          refine sw_case (v := 3) (fun c12 => ?_) (fun c12 => ?_)
          · have hF := (if_pos c12).symm.trans hF
            refine sw_in (off := 99) (tgt := 115) 3 hx hb dX4_holds_16 c12 (by decide) (by decide) ?_
            refine lv_aload_n hx hb dX4_holds_115 rfl (lv_at hl 1 rfl) ?_
            refine ge_X4_df hx hb hg hown kf_X4_32 hK hP dX4_holds_116 ?_
            refine lv_iconst (v := 1) hx hb dX4_holds_119 (by decide) ?_
            refine lv_icmp_ne (tgt := 127) hx hb dX4_holds_120 (by decide) (fun c13 => ?_) (fun c13 => ?_)
            · have hF := (if_neg c13).symm.trans hF
              refine lv_iconst (v := 0) hx hb dX4_holds_127 (by decide) ?_
              refine lv_iload_n hx hb dX4_holds_128 rfl (lv_at hl 0 rfl) ?_
              refine lv_icmp_eq (tgt := 136) hx hb dX4_holds_129 (by decide) (fun c15 => ?_) (fun c15 => ?_)
              · refine lv_iconst (v := 0) hx hb dX4_holds_136 (by decide) ?_
                exact g_zret hx hb hr hlocks hP hS dX4_holds_137 rfl hF rfl
              · exact absurd c15 (by decide)
            · have hF := (if_pos c13).symm.trans hF
              refine lv_iconst (v := 1) hx hb dX4_holds_123 (by decide) ?_
              refine lv_goto (tgt := 128) hx hb dX4_holds_124 (by decide) ?_
              refine lv_iload_n hx hb dX4_holds_128 rfl (lv_at hl 0 rfl) ?_
              refine lv_icmp_eq (tgt := 136) hx hb dX4_holds_129 (by decide) (fun c14 => ?_) (fun c14 => ?_)
              · exact absurd c14 (by decide)
              · refine lv_iconst (v := 1) hx hb dX4_holds_132 (by decide) ?_
                refine lv_goto (tgt := 137) hx hb dX4_holds_133 (by decide) ?_
                exact g_zret hx hb hr hlocks hP hS dX4_holds_137 rfl hF rfl
          · have hF := (if_neg c12).symm.trans hF
            refine sw_case (v := 4) (fun c16 => ?_) (fun c16 => ?_)
            · have hF := (if_pos c16).symm.trans hF
              refine sw_in (off := 122) (tgt := 138) 4 hx hb dX4_holds_16 c16 (by decide) (by decide) ?_
              refine lv_aload_n hx hb dX4_holds_138 rfl (lv_at hl 1 rfl) ?_
              refine ge_X4_picture hx hb hg hown kf_X4_25 hK hP dX4_holds_139 ?_
              refine g_Vi hx hb hml hown hg (c_X3_flag l dC dI cI cZ x hi _) cs_X4_110 rfl rfl ⟨Nat.le_of_ble_eq_true rfl, Nat.le_of_ble_eq_true rfl⟩ hK hP hS (q0 := 6) rfl rfl rfl hl.1 rfl (Nat.le_of_ble_eq_true rfl) dX4_holds_142 ⟨Nat.zero_le _, Nat.zero_le _⟩ (fun H locs hP hS => ?_)
              refine lv_iload_n hx hb dX4_holds_145 rfl (lv_at hl 0 rfl) ?_
              refine lv_icmp_eq (tgt := 153) hx hb dX4_holds_146 (by decide) (fun c17 => ?_) (fun c17 => ?_)
              · have hF := (if_pos c17).symm.trans hF
                refine lv_iconst (v := 0) hx hb dX4_holds_153 (by decide) ?_
                exact g_zret hx hb hr hlocks hP hS dX4_holds_154 rfl hF rfl
              · have hF := (if_neg c17).symm.trans hF
                refine lv_iconst (v := 1) hx hb dX4_holds_149 (by decide) ?_
                refine lv_goto (tgt := 154) hx hb dX4_holds_150 (by decide) ?_
                exact g_zret hx hb hr hlocks hP hS dX4_holds_154 rfl hF rfl
            · have hF := (if_neg c16).symm.trans hF
              refine sw_case (v := 6) (fun c18 => ?_) (fun c18 => ?_)
              · have hF := (if_pos c18).symm.trans hF
                refine sw_in (off := 139) (tgt := 155) 6 hx hb dX4_holds_16 c18 (by decide) (by decide) ?_
                refine lv_aload_n hx hb dX4_holds_155 rfl (lv_at hl 1 rfl) ?_
                refine ge_X4_keys hx hb hg hown kf_X4_21 hK hP dX4_holds_156 ?_
                refine g_Vi hx hb hml hown hg (c_X0_askedIsDown l dC dI cI cZ x hi _) cs_X4_116 rfl rfl ⟨Nat.le_of_ble_eq_true rfl, Nat.le_of_ble_eq_true rfl⟩ hK hP hS (q0 := 3) rfl rfl rfl hl.1 rfl (Nat.le_of_ble_eq_true rfl) dX4_holds_159 ⟨Nat.zero_le _, Nat.zero_le _⟩ (fun H locs hP hS => ?_)
                refine lv_iload_n hx hb dX4_holds_162 rfl (lv_at hl 0 rfl) ?_
                refine lv_icmp_eq (tgt := 170) hx hb dX4_holds_163 (by decide) (fun c19 => ?_) (fun c19 => ?_)
                · have hF := (if_pos c19).symm.trans hF
                  refine lv_iconst (v := 0) hx hb dX4_holds_170 (by decide) ?_
                  exact g_zret hx hb hr hlocks hP hS dX4_holds_171 rfl hF rfl
                · have hF := (if_neg c19).symm.trans hF
                  refine lv_iconst (v := 1) hx hb dX4_holds_166 (by decide) ?_
                  refine lv_goto (tgt := 171) hx hb dX4_holds_167 (by decide) ?_
                  exact g_zret hx hb hr hlocks hP hS dX4_holds_171 rfl hF rfl
              · have hF := (if_neg c18).symm.trans hF
                refine sw_def (tgt := 172) [0, 1, 2, 3, 4, 6] hx hb dX4_holds_16 (List.forall_mem_cons.mpr ⟨c2, List.forall_mem_cons.mpr ⟨c4, List.forall_mem_cons.mpr ⟨c8, List.forall_mem_cons.mpr ⟨c12, List.forall_mem_cons.mpr ⟨c16, List.forall_mem_cons.mpr ⟨c18, fun _ h => absurd h List.not_mem_nil⟩⟩⟩⟩⟩⟩) (by decide) (by decide) ?_
                refine lv_iload_n hx hb dX4_holds_172 rfl (lv_at hl 0 rfl) ?_
                exact g_zret hx hb hr hlocks hP hS dX4_holds_173 rfl hF rfl
  · have hF := (if_neg c1).symm.trans hF
    refine lv_iconst (v := 1) hx hb dX4_holds_6 (by decide) ?_
    refine lv_goto (tgt := 11) hx hb dX4_holds_7 (by decide) ?_
    refine lv_istore_n hx hb dX4_holds_11 rfl hl (by decide) rfl (fun ls hl => ?_)
    have hl : lv_has ls 3 [(2, _), (0, _), (1, _)] := hl
    refine lv_iload_n hx hb dX4_holds_12 rfl (lv_at hl 2 rfl) ?_
    refine lv_bipush (v := 7) hx hb dX4_holds_13 (by decide) ?_
    refine lv_iand hx hb dX4_holds_15 ?_
    refine sw_case (v := 0) (fun c20 => ?_) (fun c20 => ?_)
    · have hF := (if_pos c20).symm.trans hF
      refine sw_in (off := 44) (tgt := 60) 0 hx hb dX4_holds_16 c20 (by decide) (by decide) ?_
      refine lv_iload_n hx hb dX4_holds_60 rfl (lv_at hl 0 rfl) ?_
      refine lv_if_ne (tgt := 68) hx hb dX4_holds_61 (by decide) (fun c21 => ?_) (fun c21 => ?_)
      · refine lv_iconst (v := 0) hx hb dX4_holds_68 (by decide) ?_
        exact g_zret hx hb hr hlocks hP hS dX4_holds_69 rfl hF rfl
      · exact absurd c21 (by decide)
    · have hF := (if_neg c20).symm.trans hF
      refine sw_case (v := 1) (fun c22 => ?_) (fun c22 => ?_)
      · have hF := (if_pos c22).symm.trans hF
        refine sw_in (off := 54) (tgt := 70) 1 hx hb dX4_holds_16 c22 (by decide) (by decide) ?_
        refine lv_aload_n hx hb dX4_holds_70 rfl (lv_at hl 1 rfl) ?_
        refine ge_X4_q hx hb hg hown kf_X4_44 hK hP dX4_holds_71 ?_
        refine lv_iconst (v := 1) hx hb dX4_holds_74 (by decide) ?_
        refine lv_icmp_ne (tgt := 82) hx hb dX4_holds_75 (by decide) (fun c23 => ?_) (fun c23 => ?_)
        · have hF := (if_neg c23).symm.trans hF
          refine lv_iconst (v := 0) hx hb dX4_holds_82 (by decide) ?_
          refine lv_iload_n hx hb dX4_holds_83 rfl (lv_at hl 0 rfl) ?_
          refine lv_icmp_eq (tgt := 91) hx hb dX4_holds_84 (by decide) (fun c25 => ?_) (fun c25 => ?_)
          · exact absurd c25 (by decide)
          · refine lv_iconst (v := 1) hx hb dX4_holds_87 (by decide) ?_
            refine lv_goto (tgt := 92) hx hb dX4_holds_88 (by decide) ?_
            exact g_zret hx hb hr hlocks hP hS dX4_holds_92 rfl hF rfl
        · have hF := (if_pos c23).symm.trans hF
          refine lv_iconst (v := 1) hx hb dX4_holds_78 (by decide) ?_
          refine lv_goto (tgt := 83) hx hb dX4_holds_79 (by decide) ?_
          refine lv_iload_n hx hb dX4_holds_83 rfl (lv_at hl 0 rfl) ?_
          refine lv_icmp_eq (tgt := 91) hx hb dX4_holds_84 (by decide) (fun c24 => ?_) (fun c24 => ?_)
          · refine lv_iconst (v := 0) hx hb dX4_holds_91 (by decide) ?_
            exact g_zret hx hb hr hlocks hP hS dX4_holds_92 rfl hF rfl
          · exact absurd c24 (by decide)
      · have hF := (if_neg c22).symm.trans hF
        refine sw_case (v := 2) (fun c26 => ?_) (fun c26 => ?_)
        · have hF := (if_pos c26).symm.trans hF
          refine sw_in (off := 77) (tgt := 93) 2 hx hb dX4_holds_16 c26 (by decide) (by decide) ?_
          refine lv_aload_n hx hb dX4_holds_93 rfl (lv_at hl 1 rfl) ?_
          refine ge_X4_d hx hb hg hown kf_X4_29 hK hP dX4_holds_94 ?_
          refine lv_if_ne (tgt := 104) hx hb dX4_holds_97 (by decide) (fun c27 => ?_) (fun c27 => ?_)
          · have hF := (if_neg c27).symm.trans hF
            refine lv_iconst (v := 0) hx hb dX4_holds_104 (by decide) ?_
            refine lv_iload_n hx hb dX4_holds_105 rfl (lv_at hl 0 rfl) ?_
            refine lv_icmp_eq (tgt := 113) hx hb dX4_holds_106 (by decide) (fun c29 => ?_) (fun c29 => ?_)
            · exact absurd c29 (by decide)
            · refine lv_iconst (v := 1) hx hb dX4_holds_109 (by decide) ?_
              refine lv_goto (tgt := 114) hx hb dX4_holds_110 (by decide) ?_
              exact g_zret hx hb hr hlocks hP hS dX4_holds_114 rfl hF rfl
          · have hF := (if_pos c27).symm.trans hF
            refine lv_iconst (v := 1) hx hb dX4_holds_100 (by decide) ?_
            refine lv_goto (tgt := 105) hx hb dX4_holds_101 (by decide) ?_
            refine lv_iload_n hx hb dX4_holds_105 rfl (lv_at hl 0 rfl) ?_
            refine lv_icmp_eq (tgt := 113) hx hb dX4_holds_106 (by decide) (fun c28 => ?_) (fun c28 => ?_)
            · refine lv_iconst (v := 0) hx hb dX4_holds_113 (by decide) ?_
              exact g_zret hx hb hr hlocks hP hS dX4_holds_114 rfl hF rfl
            · exact absurd c28 (by decide)
        · have hF := (if_neg c26).symm.trans hF
          refine sw_case (v := 3) (fun c30 => ?_) (fun c30 => ?_)
          · have hF := (if_pos c30).symm.trans hF
            refine sw_in (off := 99) (tgt := 115) 3 hx hb dX4_holds_16 c30 (by decide) (by decide) ?_
            refine lv_aload_n hx hb dX4_holds_115 rfl (lv_at hl 1 rfl) ?_
            refine ge_X4_df hx hb hg hown kf_X4_32 hK hP dX4_holds_116 ?_
            refine lv_iconst (v := 1) hx hb dX4_holds_119 (by decide) ?_
            refine lv_icmp_ne (tgt := 127) hx hb dX4_holds_120 (by decide) (fun c31 => ?_) (fun c31 => ?_)
            · have hF := (if_neg c31).symm.trans hF
              refine lv_iconst (v := 0) hx hb dX4_holds_127 (by decide) ?_
              refine lv_iload_n hx hb dX4_holds_128 rfl (lv_at hl 0 rfl) ?_
              refine lv_icmp_eq (tgt := 136) hx hb dX4_holds_129 (by decide) (fun c33 => ?_) (fun c33 => ?_)
              · exact absurd c33 (by decide)
              · refine lv_iconst (v := 1) hx hb dX4_holds_132 (by decide) ?_
                refine lv_goto (tgt := 137) hx hb dX4_holds_133 (by decide) ?_
                exact g_zret hx hb hr hlocks hP hS dX4_holds_137 rfl hF rfl
            · have hF := (if_pos c31).symm.trans hF
              refine lv_iconst (v := 1) hx hb dX4_holds_123 (by decide) ?_
              refine lv_goto (tgt := 128) hx hb dX4_holds_124 (by decide) ?_
              refine lv_iload_n hx hb dX4_holds_128 rfl (lv_at hl 0 rfl) ?_
              refine lv_icmp_eq (tgt := 136) hx hb dX4_holds_129 (by decide) (fun c32 => ?_) (fun c32 => ?_)
              · refine lv_iconst (v := 0) hx hb dX4_holds_136 (by decide) ?_
                exact g_zret hx hb hr hlocks hP hS dX4_holds_137 rfl hF rfl
              · exact absurd c32 (by decide)
          · have hF := (if_neg c30).symm.trans hF
            refine sw_case (v := 4) (fun c34 => ?_) (fun c34 => ?_)
            · have hF := (if_pos c34).symm.trans hF
              refine sw_in (off := 122) (tgt := 138) 4 hx hb dX4_holds_16 c34 (by decide) (by decide) ?_
              refine lv_aload_n hx hb dX4_holds_138 rfl (lv_at hl 1 rfl) ?_
              refine ge_X4_picture hx hb hg hown kf_X4_25 hK hP dX4_holds_139 ?_
              refine g_Vi hx hb hml hown hg (c_X3_flag l dC dI cI cZ x hi _) cs_X4_110 rfl rfl ⟨Nat.le_of_ble_eq_true rfl, Nat.le_of_ble_eq_true rfl⟩ hK hP hS (q0 := 6) rfl rfl rfl hl.1 rfl (Nat.le_of_ble_eq_true rfl) dX4_holds_142 ⟨Nat.zero_le _, Nat.zero_le _⟩ (fun H locs hP hS => ?_)
              refine lv_iload_n hx hb dX4_holds_145 rfl (lv_at hl 0 rfl) ?_
              refine lv_icmp_eq (tgt := 153) hx hb dX4_holds_146 (by decide) (fun c35 => ?_) (fun c35 => ?_)
              · have hF := (if_pos c35).symm.trans hF
                refine lv_iconst (v := 0) hx hb dX4_holds_153 (by decide) ?_
                exact g_zret hx hb hr hlocks hP hS dX4_holds_154 rfl hF rfl
              · have hF := (if_neg c35).symm.trans hF
                refine lv_iconst (v := 1) hx hb dX4_holds_149 (by decide) ?_
                refine lv_goto (tgt := 154) hx hb dX4_holds_150 (by decide) ?_
                exact g_zret hx hb hr hlocks hP hS dX4_holds_154 rfl hF rfl
            · have hF := (if_neg c34).symm.trans hF
              refine sw_case (v := 6) (fun c36 => ?_) (fun c36 => ?_)
              · have hF := (if_pos c36).symm.trans hF
                refine sw_in (off := 139) (tgt := 155) 6 hx hb dX4_holds_16 c36 (by decide) (by decide) ?_
                refine lv_aload_n hx hb dX4_holds_155 rfl (lv_at hl 1 rfl) ?_
                refine ge_X4_keys hx hb hg hown kf_X4_21 hK hP dX4_holds_156 ?_
                refine g_Vi hx hb hml hown hg (c_X0_askedIsDown l dC dI cI cZ x hi _) cs_X4_116 rfl rfl ⟨Nat.le_of_ble_eq_true rfl, Nat.le_of_ble_eq_true rfl⟩ hK hP hS (q0 := 3) rfl rfl rfl hl.1 rfl (Nat.le_of_ble_eq_true rfl) dX4_holds_159 ⟨Nat.zero_le _, Nat.zero_le _⟩ (fun H locs hP hS => ?_)
                refine lv_iload_n hx hb dX4_holds_162 rfl (lv_at hl 0 rfl) ?_
                refine lv_icmp_eq (tgt := 170) hx hb dX4_holds_163 (by decide) (fun c37 => ?_) (fun c37 => ?_)
                · have hF := (if_pos c37).symm.trans hF
                  refine lv_iconst (v := 0) hx hb dX4_holds_170 (by decide) ?_
                  exact g_zret hx hb hr hlocks hP hS dX4_holds_171 rfl hF rfl
                · have hF := (if_neg c37).symm.trans hF
                  refine lv_iconst (v := 1) hx hb dX4_holds_166 (by decide) ?_
                  refine lv_goto (tgt := 171) hx hb dX4_holds_167 (by decide) ?_
                  exact g_zret hx hb hr hlocks hP hS dX4_holds_171 rfl hF rfl
              · have hF := (if_neg c36).symm.trans hF
                refine sw_def (tgt := 172) [0, 1, 2, 3, 4, 6] hx hb dX4_holds_16 (List.forall_mem_cons.mpr ⟨c20, List.forall_mem_cons.mpr ⟨c22, List.forall_mem_cons.mpr ⟨c26, List.forall_mem_cons.mpr ⟨c30, List.forall_mem_cons.mpr ⟨c34, List.forall_mem_cons.mpr ⟨c36, fun _ h => absurd h List.not_mem_nil⟩⟩⟩⟩⟩⟩) (by decide) (by decide) ?_
                refine lv_iload_n hx hb dX4_holds_172 rfl (lv_at hl 0 rfl) ?_
                exact g_zret hx hb hr hlocks hP hS dX4_holds_173 rfl hF rfl
def f_X4_branch (u : BS) (p0 : Int32) : BS :=
  if (f_X4_holds u p0) = 0 then
    let r1 : BS := f_X4_grow u (bq_p u) 1
    r1
  else
    let r2 : BS := f_X4_putRegister u (bq_p u) (((f_X4_register u (bq_p u)) &&& 65280) + (f_X4_at u (bq_p u)))
    r2
set_option maxHeartbeats 4000000 in
set_option maxRecDepth 100000 in
theorem c_X4_branch (l : Launch) (dC : Nat → ClassId) (dI : Nat → Nat → Nat) (cI cZ : ClassId) (x : Nat → Nat) (hi : g_inj 13 x) (u : BS) (p0 : Int32) : g_Mv l yX4_branch (.code yX4_branch cX4_branch 2 none) { frames := 2, cells := 0, slots := 0, locals := 44 } (dC, dI) vwCl (tysW cI cZ) (wB x cI cZ) (g_bA 13 x) u [.ref (x 8), .int p0] (f_X4_branch u p0) := by
  refine Met.ofW (cc := cX4_branch) (maxL := 2) (ret := none) (by decide) rfl ?_
  intro p e s m args below meth c s₁ B hml hv
  obtain ⟨rfl, hP, hK⟩ := hv
  have hx := B.exec
  have hb := B.bytes
  have hr := B.returns
  have hts := atoms_spec (ws := .code yX4_branch cX4_branch 2 none :: gtbl) B.pre
  have hg : ∀ w ∈ gtbl, w.before _ s = true := fun w h => hts w (List.mem_cons_of_mem _ h)
  have hown : s.vm.findClass RX4 = some m.cls := findClass_of_methodNamed B.named
  have hlocks := B.notSynchronized
  have hS : va_S (g_bA 13 x) s.heap s.heap [] := va_S.rf
  have hl := lv_entry ([.ref (x 8), .int p0]) (n := 2) (Nat.le_of_ble_eq_true rfl)
  rw [lg_entry_eq]
  generalize (lg_sl ([.ref (x 8), .int p0]) ++ List.replicate (2 - (lg_sl ([.ref (x 8), .int p0])).length) Slot.unset).toArray = ls at hl ⊢
  have hl : lv_has ls 2 [(0, .ref (x 8)), (1, .int p0)] := hl
  obtain ⟨F, hF⟩ : ∃ F, f_X4_branch u p0 = F := ⟨_, rfl⟩
  rw [hF]
  refine lv_aload_n hx hb dX4_branch_0 rfl (lv_at hl 0 rfl) ?_
  refine lv_iload_n hx hb dX4_branch_1 rfl (lv_at hl 1 rfl) ?_
  refine g_Vi hx hb hml hown hg (c_X4_holds l dC dI cI cZ x hi _ _) cs_X4_106 rfl rfl ⟨Nat.le_of_ble_eq_true rfl, Nat.le_of_ble_eq_true rfl⟩ hK hP hS (q0 := 8) rfl rfl rfl hl.1 rfl (Nat.le_of_ble_eq_true rfl) dX4_branch_2 ⟨Nat.zero_le _, Nat.zero_le _⟩ (fun H locs hP hS => ?_)
  refine lv_if_eq (tgt := 39) hx hb dX4_branch_5 (by decide) (fun c1 => ?_) (fun c1 => ?_)
  · have hF := (if_pos c1).symm.trans hF
    refine lv_aload_n hx hb dX4_branch_39 rfl (lv_at hl 0 rfl) ?_
    refine lv_aload_n hx hb dX4_branch_40 rfl (lv_at hl 0 rfl) ?_
    refine ge_X4_p hx hb hg hown kf_X4_35 hK hP dX4_branch_41 ?_
    refine lv_iconst (v := 1) hx hb dX4_branch_44 (by decide) ?_
    refine g_Vv hx hb hml hown hg (c_X4_grow l dC dI cI cZ x hi _ _ _) cs_X4_81 rfl rfl ⟨Nat.le_of_ble_eq_true rfl, Nat.le_of_ble_eq_true rfl⟩ hK hP hS (q0 := 8) rfl rfl rfl hl.1 rfl (Nat.le_of_ble_eq_true rfl) dX4_branch_45 ⟨Nat.zero_le _, Nat.zero_le _⟩ (fun H locs hP hS => ?_)
    exact g_vret hx hb hr hlocks hP hS dX4_branch_48 hF
  · have hF := (if_neg c1).symm.trans hF
    refine lv_aload_n hx hb dX4_branch_8 rfl (lv_at hl 0 rfl) ?_
    refine lv_aload_n hx hb dX4_branch_9 rfl (lv_at hl 0 rfl) ?_
    refine ge_X4_p hx hb hg hown kf_X4_35 hK hP dX4_branch_10 ?_
    refine lv_aload_n hx hb dX4_branch_13 rfl (lv_at hl 0 rfl) ?_
    refine lv_aload_n hx hb dX4_branch_14 rfl (lv_at hl 0 rfl) ?_
    refine ge_X4_p hx hb hg hown kf_X4_35 hK hP dX4_branch_15 ?_
    refine g_Vi hx hb hml hown hg (c_X4_register l dC dI cI cZ x hi _ _) cs_X4_51 rfl rfl ⟨Nat.le_of_ble_eq_true rfl, Nat.le_of_ble_eq_true rfl⟩ hK hP hS (q0 := 8) rfl rfl rfl hl.1 rfl (Nat.le_of_ble_eq_true rfl) dX4_branch_18 ⟨Nat.zero_le _, Nat.zero_le _⟩ (fun H locs hP hS => ?_)
    refine lv_ldc (v := 65280) hx hb hown (hg _ kd_X4_96) dX4_branch_21 ?_
    refine lv_iand hx hb dX4_branch_23 ?_
    refine lv_aload_n hx hb dX4_branch_24 rfl (lv_at hl 0 rfl) ?_
    refine lv_aload_n hx hb dX4_branch_25 rfl (lv_at hl 0 rfl) ?_
    refine ge_X4_p hx hb hg hown kf_X4_35 hK hP dX4_branch_26 ?_
    refine g_Vi hx hb hml hown hg (c_X4_at l dC dI cI cZ x hi _ _) cs_X4_103 rfl rfl ⟨Nat.le_of_ble_eq_true rfl, Nat.le_of_ble_eq_true rfl⟩ hK hP hS (q0 := 8) rfl rfl rfl hl.1 rfl (Nat.le_of_ble_eq_true rfl) dX4_branch_29 ⟨Nat.zero_le _, Nat.zero_le _⟩ (fun H locs hP hS => ?_)
    refine lv_iadd hx hb dX4_branch_32 ?_
    refine g_Vv hx hb hml hown hg (c_X4_putRegister l dC dI cI cZ x hi _ _ _) cs_X4_56 rfl rfl ⟨Nat.le_of_ble_eq_true rfl, Nat.le_of_ble_eq_true rfl⟩ hK hP hS (q0 := 8) rfl rfl rfl hl.1 rfl (Nat.le_of_ble_eq_true rfl) dX4_branch_33 ⟨Nat.zero_le _, Nat.zero_le _⟩ (fun H locs hP hS => ?_)
    refine lv_goto (tgt := 48) hx hb dX4_branch_36 (by decide) ?_
    exact g_vret hx hb hr hlocks hP hS dX4_branch_48 hF
def f_X4_output (u : BS) (p0 : Int32) (p1 : Int32) : BS :=
  if p0 = 1 then
    let r1 : BS := f_X3_switchTo u 0
    r1
  else
    if p0 = 2 then
      let r2 : BS := f_X0_ask u p1
      r2
    else
      u
def ok_X4_output (u : BS) (p0 : Int32) (p1 : Int32) : Prop :=
  if p0 = 1 then
    ok_X3_switchTo u 0 ∧
    let r1 : BS := f_X3_switchTo u 0
    True
  else
    if p0 = 2 then
      let r2 : BS := f_X0_ask u p1
      True
    else
      True
set_option maxHeartbeats 4000000 in
set_option maxRecDepth 100000 in
theorem c_X4_output (l : Launch) (dC : Nat → ClassId) (dI : Nat → Nat → Nat) (cI cZ : ClassId) (x : Nat → Nat) (hi : g_inj 13 x) (u : BS) (p0 : Int32) (p1 : Int32) (hok : ok_X4_output u p0 p1) : g_Mv l yX4_output (.code yX4_output cX4_output 3 none) { frames := 1, cells := 0, slots := 0, locals := 21 } (dC, dI) vwCl (tysW cI cZ) (wB x cI cZ) (g_bA 13 x) u [.ref (x 8), .int p0, .int p1] (f_X4_output u p0 p1) := by
  refine Met.ofW (cc := cX4_output) (maxL := 3) (ret := none) (by decide) rfl ?_
  intro p e s m args below meth c s₁ B hml hv
  obtain ⟨rfl, hP, hK⟩ := hv
  have hx := B.exec
  have hb := B.bytes
  have hr := B.returns
  have hts := atoms_spec (ws := .code yX4_output cX4_output 3 none :: gtbl) B.pre
  have hg : ∀ w ∈ gtbl, w.before _ s = true := fun w h => hts w (List.mem_cons_of_mem _ h)
  have hown : s.vm.findClass RX4 = some m.cls := findClass_of_methodNamed B.named
  have hlocks := B.notSynchronized
  have hS : va_S (g_bA 13 x) s.heap s.heap [] := va_S.rf
  have hl := lv_entry ([.ref (x 8), .int p0, .int p1]) (n := 3) (Nat.le_of_ble_eq_true rfl)
  rw [lg_entry_eq]
  generalize (lg_sl ([.ref (x 8), .int p0, .int p1]) ++ List.replicate (3 - (lg_sl ([.ref (x 8), .int p0, .int p1])).length) Slot.unset).toArray = ls at hl ⊢
  have hl : lv_has ls 3 [(0, .ref (x 8)), (1, .int p0), (2, .int p1)] := hl
  obtain ⟨F, hF⟩ : ∃ F, f_X4_output u p0 p1 = F := ⟨_, rfl⟩
  rw [hF]
  refine lv_iload_n hx hb dX4_output_0 rfl (lv_at hl 1 rfl) ?_
  refine lv_iconst (v := 1) hx hb dX4_output_1 (by decide) ?_
  refine lv_icmp_ne (tgt := 16) hx hb dX4_output_2 (by decide) (fun c1 => ?_) (fun c1 => ?_)
  · have hF := (if_neg c1).symm.trans hF
    have hok := Eq.mp (if_neg c1) hok
    refine lv_iload_n hx hb dX4_output_16 rfl (lv_at hl 1 rfl) ?_
    refine lv_iconst (v := 2) hx hb dX4_output_17 (by decide) ?_
    refine lv_icmp_ne (tgt := 29) hx hb dX4_output_18 (by decide) (fun c3 => ?_) (fun c3 => ?_)
    · have hF := (if_neg c3).symm.trans hF
      have hok := Eq.mp (if_neg c3) hok
      exact g_vret hx hb hr hlocks hP hS dX4_output_29 hF
    · have hF := (if_pos c3).symm.trans hF
      have hok := Eq.mp (if_pos c3) hok
      refine lv_aload_n hx hb dX4_output_21 rfl (lv_at hl 0 rfl) ?_
      refine ge_X4_keys hx hb hg hown kf_X4_21 hK hP dX4_output_22 ?_
      refine lv_iload_n hx hb dX4_output_25 rfl (lv_at hl 2 rfl) ?_
      refine g_Vv hx hb hml hown hg (c_X0_ask l dC dI cI cZ x hi _ _) cs_X4_128 rfl rfl ⟨Nat.le_of_ble_eq_true rfl, Nat.le_of_ble_eq_true rfl⟩ hK hP hS (q0 := 3) rfl rfl rfl hl.1 rfl (Nat.le_of_ble_eq_true rfl) dX4_output_26 ⟨Nat.zero_le _, Nat.zero_le _⟩ (fun H locs hP hS => ?_)
      exact g_vret hx hb hr hlocks hP hS dX4_output_29 hF
  · have hF := (if_pos c1).symm.trans hF
    have hok := Eq.mp (if_pos c1) hok
    refine lv_aload_n hx hb dX4_output_5 rfl (lv_at hl 0 rfl) ?_
    refine ge_X4_picture hx hb hg hown kf_X4_25 hK hP dX4_output_6 ?_
    refine lv_iconst (v := 0) hx hb dX4_output_9 (by decide) ?_
    obtain ⟨c2, hok⟩ := hok
    refine g_Vv hx hb hml hown hg (c_X3_switchTo l dC dI cI cZ x hi _ _ c2) cs_X4_124 rfl rfl ⟨Nat.le_of_ble_eq_true rfl, Nat.le_of_ble_eq_true rfl⟩ hK hP hS (q0 := 6) rfl rfl rfl hl.1 rfl (Nat.le_of_ble_eq_true rfl) dX4_output_10 ⟨Nat.zero_le _, Nat.zero_le _⟩ (fun H locs hP hS => ?_)
    refine lv_goto (tgt := 29) hx hb dX4_output_13 (by decide) ?_
    exact g_vret hx hb hr hlocks hP hS dX4_output_29 hF
def f_X4_transfer (u : BS) (p0 : Int32) : BS :=
  if p0 = 0 then
    let r1 : BS := f_X4_grow u (bq_x u) 1
    r1
  else
    if 8 ≤ p0 then
      if p0 ≤ 8 then
        u
      else
        let r2 : BS := f_X4_putAt u (bq_x u) 0
        let u3 : BS := bs_d r2 0
        if p0 = 9 then
          let r4 : BS := f_X3_switchTo u3 1
          r4
        else
          u3
    else
      let r5 : Int32 × BS := f_X4_take u (bq_x u)
      let r6 : BS := f_X4_output r5.2 p0 r5.1
      r6
def ok_X4_transfer (u : BS) (p0 : Int32) : Prop :=
  if p0 = 0 then
    let r1 : BS := f_X4_grow u (bq_x u) 1
    True
  else
    if 8 ≤ p0 then
      if p0 ≤ 8 then
        True
      else
        let r2 : BS := f_X4_putAt u (bq_x u) 0
        let u3 : BS := bs_d r2 0
        if p0 = 9 then
          ok_X3_switchTo u3 1 ∧
          let r4 : BS := f_X3_switchTo u3 1
          True
        else
          True
    else
      let r5 : Int32 × BS := f_X4_take u (bq_x u)
      ok_X4_output r5.2 p0 r5.1 ∧
      let r6 : BS := f_X4_output r5.2 p0 r5.1
      True
set_option maxHeartbeats 4000000 in
set_option maxRecDepth 100000 in
theorem c_X4_transfer (l : Launch) (dC : Nat → ClassId) (dI : Nat → Nat → Nat) (cI cZ : ClassId) (x : Nat → Nat) (hi : g_inj 13 x) (u : BS) (p0 : Int32) (hok : ok_X4_transfer u p0) : g_Mv l yX4_transfer (.code yX4_transfer cX4_transfer 2 none) { frames := 2, cells := 0, slots := 0, locals := 44 } (dC, dI) vwCl (tysW cI cZ) (wB x cI cZ) (g_bA 13 x) u [.ref (x 8), .int p0] (f_X4_transfer u p0) := by
  refine Met.ofW (cc := cX4_transfer) (maxL := 2) (ret := none) (by decide) rfl ?_
  intro p e s m args below meth c s₁ B hml hv
  obtain ⟨rfl, hP, hK⟩ := hv
  have hx := B.exec
  have hb := B.bytes
  have hr := B.returns
  have hts := atoms_spec (ws := .code yX4_transfer cX4_transfer 2 none :: gtbl) B.pre
  have hg : ∀ w ∈ gtbl, w.before _ s = true := fun w h => hts w (List.mem_cons_of_mem _ h)
  have hown : s.vm.findClass RX4 = some m.cls := findClass_of_methodNamed B.named
  have hlocks := B.notSynchronized
  have hS : va_S (g_bA 13 x) s.heap s.heap [] := va_S.rf
  have hl := lv_entry ([.ref (x 8), .int p0]) (n := 2) (Nat.le_of_ble_eq_true rfl)
  rw [lg_entry_eq]
  generalize (lg_sl ([.ref (x 8), .int p0]) ++ List.replicate (2 - (lg_sl ([.ref (x 8), .int p0])).length) Slot.unset).toArray = ls at hl ⊢
  have hl : lv_has ls 2 [(0, .ref (x 8)), (1, .int p0)] := hl
  obtain ⟨F, hF⟩ : ∃ F, f_X4_transfer u p0 = F := ⟨_, rfl⟩
  rw [hF]
  refine lv_iload_n hx hb dX4_transfer_0 rfl (lv_at hl 1 rfl) ?_
  refine lv_if_ne (tgt := 16) hx hb dX4_transfer_1 (by decide) (fun c1 => ?_) (fun c1 => ?_)
  · have hF := (if_neg c1).symm.trans hF
    have hok := Eq.mp (if_neg c1) hok
    refine lv_iload_n hx hb dX4_transfer_16 rfl (lv_at hl 1 rfl) ?_
    refine lv_bipush (v := 8) hx hb dX4_transfer_17 (by decide) ?_
    refine lv_icmp_ge (tgt := 38) hx hb dX4_transfer_19 (by decide) (fun c2 => ?_) (fun c2 => ?_)
    · have hF := (if_pos c2).symm.trans hF
      have hok := Eq.mp (if_pos c2) hok
      refine lv_iload_n hx hb dX4_transfer_38 rfl (lv_at hl 1 rfl) ?_
      refine lv_bipush (v := 8) hx hb dX4_transfer_39 (by decide) ?_
      refine lv_icmp_le (tgt := 72) hx hb dX4_transfer_41 (by decide) (fun c3 => ?_) (fun c3 => ?_)
      · have hF := (if_pos c3).symm.trans hF
        have hok := Eq.mp (if_pos c3) hok
        exact g_vret hx hb hr hlocks hP hS dX4_transfer_72 hF
      · have hF := (if_neg c3).symm.trans hF
        have hok := Eq.mp (if_neg c3) hok
        refine lv_aload_n hx hb dX4_transfer_44 rfl (lv_at hl 0 rfl) ?_
        refine lv_aload_n hx hb dX4_transfer_45 rfl (lv_at hl 0 rfl) ?_
        refine ge_X4_x hx hb hg hown kf_X4_38 hK hP dX4_transfer_46 ?_
        refine lv_iconst (v := 0) hx hb dX4_transfer_49 (by decide) ?_
        refine g_Vv hx hb hml hown hg (c_X4_putAt l dC dI cI cZ x hi _ _ _) cs_X4_87 rfl rfl ⟨Nat.le_of_ble_eq_true rfl, Nat.le_of_ble_eq_true rfl⟩ hK hP hS (q0 := 8) rfl rfl rfl hl.1 rfl (Nat.le_of_ble_eq_true rfl) dX4_transfer_50 ⟨Nat.zero_le _, Nat.zero_le _⟩ (fun H locs hP hS => ?_)
        refine lv_aload_n hx hb dX4_transfer_53 rfl (lv_at hl 0 rfl) ?_
        refine lv_iconst (v := 0) hx hb dX4_transfer_54 (by decide) ?_
        refine pu_X4_d hi hx hb hg hown kf_X4_29 hK hP hS dX4_transfer_55 (fun H locs hP hS => ?_)
        refine lv_iload_n hx hb dX4_transfer_58 rfl (lv_at hl 1 rfl) ?_
        refine lv_bipush (v := 9) hx hb dX4_transfer_59 (by decide) ?_
        refine lv_icmp_ne (tgt := 72) hx hb dX4_transfer_61 (by decide) (fun c4 => ?_) (fun c4 => ?_)
        · have hF := (if_neg c4).symm.trans hF
          have hok := Eq.mp (if_neg c4) hok
          exact g_vret hx hb hr hlocks hP hS dX4_transfer_72 hF
        · have hF := (if_pos c4).symm.trans hF
          have hok := Eq.mp (if_pos c4) hok
          refine lv_aload_n hx hb dX4_transfer_64 rfl (lv_at hl 0 rfl) ?_
          refine ge_X4_picture hx hb hg hown kf_X4_25 hK hP dX4_transfer_65 ?_
          refine lv_iconst (v := 1) hx hb dX4_transfer_68 (by decide) ?_
          obtain ⟨c5, hok⟩ := hok
          refine g_Vv hx hb hml hown hg (c_X3_switchTo l dC dI cI cZ x hi _ _ c5) cs_X4_124 rfl rfl ⟨Nat.le_of_ble_eq_true rfl, Nat.le_of_ble_eq_true rfl⟩ hK hP hS (q0 := 6) rfl rfl rfl hl.1 rfl (Nat.le_of_ble_eq_true rfl) dX4_transfer_69 ⟨Nat.zero_le _, Nat.zero_le _⟩ (fun H locs hP hS => ?_)
          exact g_vret hx hb hr hlocks hP hS dX4_transfer_72 hF
    · have hF := (if_neg c2).symm.trans hF
      have hok := Eq.mp (if_neg c2) hok
      refine lv_aload_n hx hb dX4_transfer_22 rfl (lv_at hl 0 rfl) ?_
      refine lv_iload_n hx hb dX4_transfer_23 rfl (lv_at hl 1 rfl) ?_
      refine lv_aload_n hx hb dX4_transfer_24 rfl (lv_at hl 0 rfl) ?_
      refine lv_aload_n hx hb dX4_transfer_25 rfl (lv_at hl 0 rfl) ?_
      refine ge_X4_x hx hb hg hown kf_X4_38 hK hP dX4_transfer_26 ?_
      refine g_Vi hx hb hml hown hg (c_X4_take l dC dI cI cZ x hi _ _) cs_X4_63 rfl rfl ⟨Nat.le_of_ble_eq_true rfl, Nat.le_of_ble_eq_true rfl⟩ hK hP hS (q0 := 8) rfl rfl rfl hl.1 rfl (Nat.le_of_ble_eq_true rfl) dX4_transfer_29 ⟨Nat.zero_le _, Nat.zero_le _⟩ (fun H locs hP hS => ?_)
      obtain ⟨c6, hok⟩ := hok
      refine g_Vv hx hb hml hown hg (c_X4_output l dC dI cI cZ x hi _ _ _ c6) cs_X4_121 rfl rfl ⟨Nat.le_of_ble_eq_true rfl, Nat.le_of_ble_eq_true rfl⟩ hK hP hS (q0 := 8) rfl rfl rfl hl.1 rfl (Nat.le_of_ble_eq_true rfl) dX4_transfer_32 ⟨Nat.zero_le _, Nat.zero_le _⟩ (fun H locs hP hS => ?_)
      refine lv_goto (tgt := 72) hx hb dX4_transfer_35 (by decide) ?_
      exact g_vret hx hb hr hlocks hP hS dX4_transfer_72 hF
  · have hF := (if_pos c1).symm.trans hF
    have hok := Eq.mp (if_pos c1) hok
    refine lv_aload_n hx hb dX4_transfer_4 rfl (lv_at hl 0 rfl) ?_
    refine lv_aload_n hx hb dX4_transfer_5 rfl (lv_at hl 0 rfl) ?_
    refine ge_X4_x hx hb hg hown kf_X4_38 hK hP dX4_transfer_6 ?_
    refine lv_iconst (v := 1) hx hb dX4_transfer_9 (by decide) ?_
    refine g_Vv hx hb hml hown hg (c_X4_grow l dC dI cI cZ x hi _ _ _) cs_X4_81 rfl rfl ⟨Nat.le_of_ble_eq_true rfl, Nat.le_of_ble_eq_true rfl⟩ hK hP hS (q0 := 8) rfl rfl rfl hl.1 rfl (Nat.le_of_ble_eq_true rfl) dX4_transfer_10 ⟨Nat.zero_le _, Nat.zero_le _⟩ (fun H locs hP hS => ?_)
    refine lv_goto (tgt := 72) hx hb dX4_transfer_13 (by decide) ?_
    exact g_vret hx hb hr hlocks hP hS dX4_transfer_72 hF
def f_X4_resume (u : BS) (p0 : Int32) : BS :=
  let r1 : Int32 × BS := f_X4_take u (bq_x u)
  let t2 : Int32 := r1.1
  let u3 : BS := bs_x r1.2 (t2 >>> ((4 : Int32) &&& 31))
  let u4 : BS := bs_p u3 (t2 &&& 15)
  let u5 : BS := bs_ie u4 p0
  u5
set_option maxHeartbeats 4000000 in
set_option maxRecDepth 100000 in
theorem c_X4_resume (l : Launch) (dC : Nat → ClassId) (dI : Nat → Nat → Nat) (cI cZ : ClassId) (x : Nat → Nat) (hi : g_inj 13 x) (u : BS) (p0 : Int32) : g_Mv l yX4_resume (.code yX4_resume cX4_resume 3 none) { frames := 2, cells := 0, slots := 0, locals := 43 } (dC, dI) vwCl (tysW cI cZ) (wB x cI cZ) (g_bA 13 x) u [.ref (x 8), .int p0] (f_X4_resume u p0) := by
  refine Met.ofW (cc := cX4_resume) (maxL := 3) (ret := none) (by decide) rfl ?_
  intro p e s m args below meth c s₁ B hml hv
  obtain ⟨rfl, hP, hK⟩ := hv
  have hx := B.exec
  have hb := B.bytes
  have hr := B.returns
  have hts := atoms_spec (ws := .code yX4_resume cX4_resume 3 none :: gtbl) B.pre
  have hg : ∀ w ∈ gtbl, w.before _ s = true := fun w h => hts w (List.mem_cons_of_mem _ h)
  have hown : s.vm.findClass RX4 = some m.cls := findClass_of_methodNamed B.named
  have hlocks := B.notSynchronized
  have hS : va_S (g_bA 13 x) s.heap s.heap [] := va_S.rf
  have hl := lv_entry ([.ref (x 8), .int p0]) (n := 3) (Nat.le_of_ble_eq_true rfl)
  rw [lg_entry_eq]
  generalize (lg_sl ([.ref (x 8), .int p0]) ++ List.replicate (3 - (lg_sl ([.ref (x 8), .int p0])).length) Slot.unset).toArray = ls at hl ⊢
  have hl : lv_has ls 3 [(0, .ref (x 8)), (1, .int p0)] := hl
  obtain ⟨F, hF⟩ : ∃ F, f_X4_resume u p0 = F := ⟨_, rfl⟩
  rw [hF]
  refine lv_aload_n hx hb dX4_resume_0 rfl (lv_at hl 0 rfl) ?_
  refine lv_aload_n hx hb dX4_resume_1 rfl (lv_at hl 0 rfl) ?_
  refine ge_X4_x hx hb hg hown kf_X4_38 hK hP dX4_resume_2 ?_
  refine g_Vi hx hb hml hown hg (c_X4_take l dC dI cI cZ x hi _ _) cs_X4_63 rfl rfl ⟨Nat.le_of_ble_eq_true rfl, Nat.le_of_ble_eq_true rfl⟩ hK hP hS (q0 := 8) rfl rfl rfl hl.1 rfl (Nat.le_of_ble_eq_true rfl) dX4_resume_5 ⟨Nat.zero_le _, Nat.zero_le _⟩ (fun H locs hP hS => ?_)
  refine lv_istore_n hx hb dX4_resume_8 rfl hl (by decide) rfl (fun ls hl => ?_)
  have hl : lv_has ls 3 [(2, _), (0, _), (1, _)] := hl
  refine lv_aload_n hx hb dX4_resume_9 rfl (lv_at hl 1 rfl) ?_
  refine lv_iload_n hx hb dX4_resume_10 rfl (lv_at hl 0 rfl) ?_
  refine lv_iconst (v := 4) hx hb dX4_resume_11 (by decide) ?_
  refine lv_ishr hx hb dX4_resume_12 ?_
  refine pu_X4_x hi hx hb hg hown kf_X4_38 hK hP hS dX4_resume_13 (fun H locs hP hS => ?_)
  refine lv_aload_n hx hb dX4_resume_16 rfl (lv_at hl 1 rfl) ?_
  refine lv_iload_n hx hb dX4_resume_17 rfl (lv_at hl 0 rfl) ?_
  refine lv_bipush (v := 15) hx hb dX4_resume_18 (by decide) ?_
  refine lv_iand hx hb dX4_resume_20 ?_
  refine pu_X4_p hi hx hb hg hown kf_X4_35 hK hP hS dX4_resume_21 (fun H locs hP hS => ?_)
  refine lv_aload_n hx hb dX4_resume_24 rfl (lv_at hl 1 rfl) ?_
  refine lv_iload_n hx hb dX4_resume_25 rfl (lv_at hl 2 rfl) ?_
  refine pu_X4_ie hi hx hb hg hown kf_X4_13 hK hP hS dX4_resume_26 (fun H locs hP hS => ?_)
  exact g_vret hx hb hr hlocks hP hS dX4_resume_29 hF
def f_X4_mark (u : BS) : BS :=
  let u1 : BS := bs_t u (((16 : Int32) * (bq_x u)) + (bq_p u))
  let r2 : BS := f_X4_putAt u1 2 (bq_t u1)
  let u3 : BS := bs_x r2 (bq_p r2)
  let r4 : BS := f_X4_grow u3 2 (-1)
  r4
set_option maxHeartbeats 4000000 in
set_option maxRecDepth 100000 in
theorem c_X4_mark (l : Launch) (dC : Nat → ClassId) (dI : Nat → Nat → Nat) (cI cZ : ClassId) (x : Nat → Nat) (hi : g_inj 13 x) (u : BS) : g_Mv l yX4_mark (.code yX4_mark cX4_mark 1 none) { frames := 2, cells := 0, slots := 0, locals := 44 } (dC, dI) vwCl (tysW cI cZ) (wB x cI cZ) (g_bA 13 x) u [.ref (x 8)] (f_X4_mark u) := by
  refine Met.ofW (cc := cX4_mark) (maxL := 1) (ret := none) (by decide) rfl ?_
  intro p e s m args below meth c s₁ B hml hv
  obtain ⟨rfl, hP, hK⟩ := hv
  have hx := B.exec
  have hb := B.bytes
  have hr := B.returns
  have hts := atoms_spec (ws := .code yX4_mark cX4_mark 1 none :: gtbl) B.pre
  have hg : ∀ w ∈ gtbl, w.before _ s = true := fun w h => hts w (List.mem_cons_of_mem _ h)
  have hown : s.vm.findClass RX4 = some m.cls := findClass_of_methodNamed B.named
  have hlocks := B.notSynchronized
  have hS : va_S (g_bA 13 x) s.heap s.heap [] := va_S.rf
  have hl := lv_entry ([.ref (x 8)]) (n := 1) (Nat.le_of_ble_eq_true rfl)
  rw [lg_entry_eq]
  generalize (lg_sl ([.ref (x 8)]) ++ List.replicate (1 - (lg_sl ([.ref (x 8)])).length) Slot.unset).toArray = ls at hl ⊢
  have hl : lv_has ls 1 [(0, .ref (x 8))] := hl
  obtain ⟨F, hF⟩ : ∃ F, f_X4_mark u = F := ⟨_, rfl⟩
  rw [hF]
  refine lv_aload_n hx hb dX4_mark_0 rfl (lv_at hl 0 rfl) ?_
  refine lv_bipush (v := 16) hx hb dX4_mark_1 (by decide) ?_
  refine lv_aload_n hx hb dX4_mark_3 rfl (lv_at hl 0 rfl) ?_
  refine ge_X4_x hx hb hg hown kf_X4_38 hK hP dX4_mark_4 ?_
  refine lv_imul hx hb dX4_mark_7 ?_
  refine lv_aload_n hx hb dX4_mark_8 rfl (lv_at hl 0 rfl) ?_
  refine ge_X4_p hx hb hg hown kf_X4_35 hK hP dX4_mark_9 ?_
  refine lv_iadd hx hb dX4_mark_12 ?_
  refine pu_X4_t hi hx hb hg hown kf_X4_41 hK hP hS dX4_mark_13 (fun H locs hP hS => ?_)
  refine lv_aload_n hx hb dX4_mark_16 rfl (lv_at hl 0 rfl) ?_
  refine lv_iconst (v := 2) hx hb dX4_mark_17 (by decide) ?_
  refine lv_aload_n hx hb dX4_mark_18 rfl (lv_at hl 0 rfl) ?_
  refine ge_X4_t hx hb hg hown kf_X4_41 hK hP dX4_mark_19 ?_
  refine g_Vv hx hb hml hown hg (c_X4_putAt l dC dI cI cZ x hi _ _ _) cs_X4_87 rfl rfl ⟨Nat.le_of_ble_eq_true rfl, Nat.le_of_ble_eq_true rfl⟩ hK hP hS (q0 := 8) rfl rfl rfl hl.1 rfl (Nat.le_of_ble_eq_true rfl) dX4_mark_22 ⟨Nat.zero_le _, Nat.zero_le _⟩ (fun H locs hP hS => ?_)
  refine lv_aload_n hx hb dX4_mark_25 rfl (lv_at hl 0 rfl) ?_
  refine lv_aload_n hx hb dX4_mark_26 rfl (lv_at hl 0 rfl) ?_
  refine ge_X4_p hx hb hg hown kf_X4_35 hK hP dX4_mark_27 ?_
  refine pu_X4_x hi hx hb hg hown kf_X4_38 hK hP hS dX4_mark_30 (fun H locs hP hS => ?_)
  refine lv_aload_n hx hb dX4_mark_33 rfl (lv_at hl 0 rfl) ?_
  refine lv_iconst (v := 2) hx hb dX4_mark_34 (by decide) ?_
  refine lv_iconst (v := (-1)) hx hb dX4_mark_35 (by decide) ?_
  refine g_Vv hx hb hml hown hg (c_X4_grow l dC dI cI cZ x hi _ _ _) cs_X4_81 rfl rfl ⟨Nat.le_of_ble_eq_true rfl, Nat.le_of_ble_eq_true rfl⟩ hK hP hS (q0 := 8) rfl rfl rfl hl.1 rfl (Nat.le_of_ble_eq_true rfl) dX4_mark_36 ⟨Nat.zero_le _, Nat.zero_le _⟩ (fun H locs hP hS => ?_)
  exact g_vret hx hb hr hlocks hP hS dX4_mark_39 hF
def f_X4_skips (u : BS) (p0 : Int32) : Int32 :=
  if p0 = 5 then
    if (bq_q u) = 0 then
      1
    else
      0
  else
    if p0 = 6 then
      if (bq_d u) = 0 then
        0
      else
        1
    else
      if p0 = 7 then
        if (bq_df u) = 0 then
          1
        else
          0
      else
        if p0 = 8 then
          1
        else
          if p0 = 12 then
            if (bq_ie u) = 1 then
              1
            else
              0
          else
            if p0 = 13 then
              if (bq_q u) = 1 then
                1
              else
                0
            else
              if p0 = 14 then
                if (bq_d u) = 0 then
                  1
                else
                  0
              else
                if p0 = 15 then
                  if (bq_df u) = 1 then
                    1
                  else
                    0
                else
                  0
set_option maxHeartbeats 4000000 in
set_option maxRecDepth 100000 in
theorem c_X4_skips (l : Launch) (dC : Nat → ClassId) (dI : Nat → Nat → Nat) (cI cZ : ClassId) (x : Nat → Nat) (hi : g_inj 13 x) (u : BS) (p0 : Int32) : g_Mi l yX4_skips (.code yX4_skips cX4_skips 2 (some .boolean)) { frames := 0, cells := 0, slots := 0, locals := 0 } (dC, dI) vwCl (tysW cI cZ) (wB x cI cZ) (g_bA 13 x) u [.ref (x 8), .int p0] (f_X4_skips u p0) u := by
  refine Met.ofW (cc := cX4_skips) (maxL := 2) (ret := (some .boolean)) (by decide) rfl ?_
  intro p e s m args below meth c s₁ B hml hv
  obtain ⟨rfl, hP, hK⟩ := hv
  have hx := B.exec
  have hb := B.bytes
  have hr := B.returns
  have hts := atoms_spec (ws := .code yX4_skips cX4_skips 2 (some .boolean) :: gtbl) B.pre
  have hg : ∀ w ∈ gtbl, w.before _ s = true := fun w h => hts w (List.mem_cons_of_mem _ h)
  have hown : s.vm.findClass RX4 = some m.cls := findClass_of_methodNamed B.named
  have hlocks := B.notSynchronized
  have hS : va_S (g_bA 13 x) s.heap s.heap [] := va_S.rf
  have hl := lv_entry ([.ref (x 8), .int p0]) (n := 2) (Nat.le_of_ble_eq_true rfl)
  rw [lg_entry_eq]
  generalize (lg_sl ([.ref (x 8), .int p0]) ++ List.replicate (2 - (lg_sl ([.ref (x 8), .int p0])).length) Slot.unset).toArray = ls at hl ⊢
  have hl : lv_has ls 2 [(0, .ref (x 8)), (1, .int p0)] := hl
  obtain ⟨F, hF⟩ : ∃ F, f_X4_skips u p0 = F := ⟨_, rfl⟩
  rw [hF]
  refine lv_iload_n hx hb dX4_skips_0 rfl (lv_at hl 1 rfl) ?_
  refine sw_case (v := 5) (fun c1 => ?_) (fun c1 => ?_)
  · have hF := (if_pos c1).symm.trans hF
    refine sw_in (off := 59) (tgt := 60) 5 hx hb dX4_skips_1 c1 (by decide) (by decide) ?_
    refine lv_aload_n hx hb dX4_skips_60 rfl (lv_at hl 0 rfl) ?_
    refine ge_X4_q hx hb hg hown kf_X4_44 hK hP dX4_skips_61 ?_
    refine lv_if_ne (tgt := 71) hx hb dX4_skips_64 (by decide) (fun c2 => ?_) (fun c2 => ?_)
    · have hF := (if_neg c2).symm.trans hF
      refine lv_iconst (v := 0) hx hb dX4_skips_71 (by decide) ?_
      exact g_zret hx hb hr hlocks hP hS dX4_skips_72 rfl hF rfl
    · have hF := (if_pos c2).symm.trans hF
      refine lv_iconst (v := 1) hx hb dX4_skips_67 (by decide) ?_
      refine lv_goto (tgt := 72) hx hb dX4_skips_68 (by decide) ?_
      exact g_zret hx hb hr hlocks hP hS dX4_skips_72 rfl hF rfl
  · have hF := (if_neg c1).symm.trans hF
    refine sw_case (v := 6) (fun c3 => ?_) (fun c3 => ?_)
    · have hF := (if_pos c3).symm.trans hF
      refine sw_in (off := 72) (tgt := 73) 6 hx hb dX4_skips_1 c3 (by decide) (by decide) ?_
      refine lv_aload_n hx hb dX4_skips_73 rfl (lv_at hl 0 rfl) ?_
      refine ge_X4_d hx hb hg hown kf_X4_29 hK hP dX4_skips_74 ?_
      refine lv_if_eq (tgt := 84) hx hb dX4_skips_77 (by decide) (fun c4 => ?_) (fun c4 => ?_)
      · have hF := (if_pos c4).symm.trans hF
        refine lv_iconst (v := 0) hx hb dX4_skips_84 (by decide) ?_
        exact g_zret hx hb hr hlocks hP hS dX4_skips_85 rfl hF rfl
      · have hF := (if_neg c4).symm.trans hF
        refine lv_iconst (v := 1) hx hb dX4_skips_80 (by decide) ?_
        refine lv_goto (tgt := 85) hx hb dX4_skips_81 (by decide) ?_
        exact g_zret hx hb hr hlocks hP hS dX4_skips_85 rfl hF rfl
    · have hF := (if_neg c3).symm.trans hF
      refine sw_case (v := 7) (fun c5 => ?_) (fun c5 => ?_)
      · have hF := (if_pos c5).symm.trans hF
        refine sw_in (off := 85) (tgt := 86) 7 hx hb dX4_skips_1 c5 (by decide) (by decide) ?_
        refine lv_aload_n hx hb dX4_skips_86 rfl (lv_at hl 0 rfl) ?_
        refine ge_X4_df hx hb hg hown kf_X4_32 hK hP dX4_skips_87 ?_
        refine lv_if_ne (tgt := 97) hx hb dX4_skips_90 (by decide) (fun c6 => ?_) (fun c6 => ?_)
        · have hF := (if_neg c6).symm.trans hF
          refine lv_iconst (v := 0) hx hb dX4_skips_97 (by decide) ?_
          exact g_zret hx hb hr hlocks hP hS dX4_skips_98 rfl hF rfl
        · have hF := (if_pos c6).symm.trans hF
          refine lv_iconst (v := 1) hx hb dX4_skips_93 (by decide) ?_
          refine lv_goto (tgt := 98) hx hb dX4_skips_94 (by decide) ?_
          exact g_zret hx hb hr hlocks hP hS dX4_skips_98 rfl hF rfl
      · have hF := (if_neg c5).symm.trans hF
        refine sw_case (v := 8) (fun c7 => ?_) (fun c7 => ?_)
        · have hF := (if_pos c7).symm.trans hF
          refine sw_in (off := 98) (tgt := 99) 8 hx hb dX4_skips_1 c7 (by decide) (by decide) ?_
          refine lv_iconst (v := 1) hx hb dX4_skips_99 (by decide) ?_
          exact g_zret hx hb hr hlocks hP hS dX4_skips_100 rfl hF rfl
        · have hF := (if_neg c7).symm.trans hF
          refine sw_case (v := 12) (fun c8 => ?_) (fun c8 => ?_)
          · have hF := (if_pos c8).symm.trans hF
            refine sw_in (off := 100) (tgt := 101) 12 hx hb dX4_skips_1 c8 (by decide) (by decide) ?_
            refine lv_aload_n hx hb dX4_skips_101 rfl (lv_at hl 0 rfl) ?_
            refine ge_X4_ie hx hb hg hown kf_X4_13 hK hP dX4_skips_102 ?_
            refine lv_iconst (v := 1) hx hb dX4_skips_105 (by decide) ?_
            refine lv_icmp_ne (tgt := 113) hx hb dX4_skips_106 (by decide) (fun c9 => ?_) (fun c9 => ?_)
            · have hF := (if_neg c9).symm.trans hF
              refine lv_iconst (v := 0) hx hb dX4_skips_113 (by decide) ?_
              exact g_zret hx hb hr hlocks hP hS dX4_skips_114 rfl hF rfl
            · have hF := (if_pos c9).symm.trans hF
              refine lv_iconst (v := 1) hx hb dX4_skips_109 (by decide) ?_
              refine lv_goto (tgt := 114) hx hb dX4_skips_110 (by decide) ?_
              exact g_zret hx hb hr hlocks hP hS dX4_skips_114 rfl hF rfl
          · have hF := (if_neg c8).symm.trans hF
            refine sw_case (v := 13) (fun c10 => ?_) (fun c10 => ?_)
            · have hF := (if_pos c10).symm.trans hF
              refine sw_in (off := 114) (tgt := 115) 13 hx hb dX4_skips_1 c10 (by decide) (by decide) ?_
              refine lv_aload_n hx hb dX4_skips_115 rfl (lv_at hl 0 rfl) ?_
              refine ge_X4_q hx hb hg hown kf_X4_44 hK hP dX4_skips_116 ?_
              refine lv_iconst (v := 1) hx hb dX4_skips_119 (by decide) ?_
              refine lv_icmp_ne (tgt := 127) hx hb dX4_skips_120 (by decide) (fun c11 => ?_) (fun c11 => ?_)
              · have hF := (if_neg c11).symm.trans hF
                refine lv_iconst (v := 0) hx hb dX4_skips_127 (by decide) ?_
                exact g_zret hx hb hr hlocks hP hS dX4_skips_128 rfl hF rfl
              · have hF := (if_pos c11).symm.trans hF
                refine lv_iconst (v := 1) hx hb dX4_skips_123 (by decide) ?_
                refine lv_goto (tgt := 128) hx hb dX4_skips_124 (by decide) ?_
                exact g_zret hx hb hr hlocks hP hS dX4_skips_128 rfl hF rfl
            · have hF := (if_neg c10).symm.trans hF
              refine sw_case (v := 14) (fun c12 => ?_) (fun c12 => ?_)
              · have hF := (if_pos c12).symm.trans hF
                refine sw_in (off := 128) (tgt := 129) 14 hx hb dX4_skips_1 c12 (by decide) (by decide) ?_
                refine lv_aload_n hx hb dX4_skips_129 rfl (lv_at hl 0 rfl) ?_
                refine ge_X4_d hx hb hg hown kf_X4_29 hK hP dX4_skips_130 ?_
                refine lv_if_ne (tgt := 140) hx hb dX4_skips_133 (by decide) (fun c13 => ?_) (fun c13 => ?_)
                · have hF := (if_neg c13).symm.trans hF
                  refine lv_iconst (v := 0) hx hb dX4_skips_140 (by decide) ?_
                  exact g_zret hx hb hr hlocks hP hS dX4_skips_141 rfl hF rfl
                · have hF := (if_pos c13).symm.trans hF
                  refine lv_iconst (v := 1) hx hb dX4_skips_136 (by decide) ?_
                  refine lv_goto (tgt := 141) hx hb dX4_skips_137 (by decide) ?_
                  exact g_zret hx hb hr hlocks hP hS dX4_skips_141 rfl hF rfl
              · have hF := (if_neg c12).symm.trans hF
                refine sw_case (v := 15) (fun c14 => ?_) (fun c14 => ?_)
                · have hF := (if_pos c14).symm.trans hF
                  refine sw_in (off := 141) (tgt := 142) 15 hx hb dX4_skips_1 c14 (by decide) (by decide) ?_
                  refine lv_aload_n hx hb dX4_skips_142 rfl (lv_at hl 0 rfl) ?_
                  refine ge_X4_df hx hb hg hown kf_X4_32 hK hP dX4_skips_143 ?_
                  refine lv_iconst (v := 1) hx hb dX4_skips_146 (by decide) ?_
                  refine lv_icmp_ne (tgt := 154) hx hb dX4_skips_147 (by decide) (fun c15 => ?_) (fun c15 => ?_)
                  · have hF := (if_neg c15).symm.trans hF
                    refine lv_iconst (v := 0) hx hb dX4_skips_154 (by decide) ?_
                    exact g_zret hx hb hr hlocks hP hS dX4_skips_155 rfl hF rfl
                  · have hF := (if_pos c15).symm.trans hF
                    refine lv_iconst (v := 1) hx hb dX4_skips_150 (by decide) ?_
                    refine lv_goto (tgt := 155) hx hb dX4_skips_151 (by decide) ?_
                    exact g_zret hx hb hr hlocks hP hS dX4_skips_155 rfl hF rfl
                · have hF := (if_neg c14).symm.trans hF
                  refine sw_def (tgt := 156) [5, 6, 7, 8, 12, 13, 14, 15] hx hb dX4_skips_1 (List.forall_mem_cons.mpr ⟨c1, List.forall_mem_cons.mpr ⟨c3, List.forall_mem_cons.mpr ⟨c5, List.forall_mem_cons.mpr ⟨c7, List.forall_mem_cons.mpr ⟨c8, List.forall_mem_cons.mpr ⟨c10, List.forall_mem_cons.mpr ⟨c12, List.forall_mem_cons.mpr ⟨c14, fun _ h => absurd h List.not_mem_nil⟩⟩⟩⟩⟩⟩⟩⟩) (by decide) (by decide) ?_
                  refine lv_iconst (v := 0) hx hb dX4_skips_156 (by decide) ?_
                  exact g_zret hx hb hr hlocks hP hS dX4_skips_157 rfl hF rfl
def f_X4_branchFar (u : BS) (p0 : Int32) : BS :=
  if (f_X4_holds u p0) = 0 then
    let r1 : BS := f_X4_grow u (bq_p u) 2
    r1
  else
    let r2 : BS := f_X4_putRegister u (bq_p u) (f_X2_pair u (f_X4_register u (bq_p u)))
    r2
set_option maxHeartbeats 4000000 in
set_option maxRecDepth 100000 in
theorem c_X4_branchFar (l : Launch) (dC : Nat → ClassId) (dI : Nat → Nat → Nat) (cI cZ : ClassId) (x : Nat → Nat) (hi : g_inj 13 x) (u : BS) (p0 : Int32) : g_Mv l yX4_branchFar (.code yX4_branchFar cX4_branchFar 2 none) { frames := 2, cells := 0, slots := 0, locals := 44 } (dC, dI) vwCl (tysW cI cZ) (wB x cI cZ) (g_bA 13 x) u [.ref (x 8), .int p0] (f_X4_branchFar u p0) := by
  refine Met.ofW (cc := cX4_branchFar) (maxL := 2) (ret := none) (by decide) rfl ?_
  intro p e s m args below meth c s₁ B hml hv
  obtain ⟨rfl, hP, hK⟩ := hv
  have hx := B.exec
  have hb := B.bytes
  have hr := B.returns
  have hts := atoms_spec (ws := .code yX4_branchFar cX4_branchFar 2 none :: gtbl) B.pre
  have hg : ∀ w ∈ gtbl, w.before _ s = true := fun w h => hts w (List.mem_cons_of_mem _ h)
  have hown : s.vm.findClass RX4 = some m.cls := findClass_of_methodNamed B.named
  have hlocks := B.notSynchronized
  have hS : va_S (g_bA 13 x) s.heap s.heap [] := va_S.rf
  have hl := lv_entry ([.ref (x 8), .int p0]) (n := 2) (Nat.le_of_ble_eq_true rfl)
  rw [lg_entry_eq]
  generalize (lg_sl ([.ref (x 8), .int p0]) ++ List.replicate (2 - (lg_sl ([.ref (x 8), .int p0])).length) Slot.unset).toArray = ls at hl ⊢
  have hl : lv_has ls 2 [(0, .ref (x 8)), (1, .int p0)] := hl
  obtain ⟨F, hF⟩ : ∃ F, f_X4_branchFar u p0 = F := ⟨_, rfl⟩
  rw [hF]
  refine lv_aload_n hx hb dX4_branchFar_0 rfl (lv_at hl 0 rfl) ?_
  refine lv_iload_n hx hb dX4_branchFar_1 rfl (lv_at hl 1 rfl) ?_
  refine g_Vi hx hb hml hown hg (c_X4_holds l dC dI cI cZ x hi _ _) cs_X4_106 rfl rfl ⟨Nat.le_of_ble_eq_true rfl, Nat.le_of_ble_eq_true rfl⟩ hK hP hS (q0 := 8) rfl rfl rfl hl.1 rfl (Nat.le_of_ble_eq_true rfl) dX4_branchFar_2 ⟨Nat.zero_le _, Nat.zero_le _⟩ (fun H locs hP hS => ?_)
  refine lv_if_eq (tgt := 34) hx hb dX4_branchFar_5 (by decide) (fun c1 => ?_) (fun c1 => ?_)
  · have hF := (if_pos c1).symm.trans hF
    refine lv_aload_n hx hb dX4_branchFar_34 rfl (lv_at hl 0 rfl) ?_
    refine lv_aload_n hx hb dX4_branchFar_35 rfl (lv_at hl 0 rfl) ?_
    refine ge_X4_p hx hb hg hown kf_X4_35 hK hP dX4_branchFar_36 ?_
    refine lv_iconst (v := 2) hx hb dX4_branchFar_39 (by decide) ?_
    refine g_Vv hx hb hml hown hg (c_X4_grow l dC dI cI cZ x hi _ _ _) cs_X4_81 rfl rfl ⟨Nat.le_of_ble_eq_true rfl, Nat.le_of_ble_eq_true rfl⟩ hK hP hS (q0 := 8) rfl rfl rfl hl.1 rfl (Nat.le_of_ble_eq_true rfl) dX4_branchFar_40 ⟨Nat.zero_le _, Nat.zero_le _⟩ (fun H locs hP hS => ?_)
    exact g_vret hx hb hr hlocks hP hS dX4_branchFar_43 hF
  · have hF := (if_neg c1).symm.trans hF
    refine lv_aload_n hx hb dX4_branchFar_8 rfl (lv_at hl 0 rfl) ?_
    refine lv_aload_n hx hb dX4_branchFar_9 rfl (lv_at hl 0 rfl) ?_
    refine ge_X4_p hx hb hg hown kf_X4_35 hK hP dX4_branchFar_10 ?_
    refine lv_aload_n hx hb dX4_branchFar_13 rfl (lv_at hl 0 rfl) ?_
    refine ge_X4_memory hx hb hg hown kf_X4_17 hK hP dX4_branchFar_14 ?_
    refine lv_aload_n hx hb dX4_branchFar_17 rfl (lv_at hl 0 rfl) ?_
    refine lv_aload_n hx hb dX4_branchFar_18 rfl (lv_at hl 0 rfl) ?_
    refine ge_X4_p hx hb hg hown kf_X4_35 hK hP dX4_branchFar_19 ?_
    refine g_Vi hx hb hml hown hg (c_X4_register l dC dI cI cZ x hi _ _) cs_X4_51 rfl rfl ⟨Nat.le_of_ble_eq_true rfl, Nat.le_of_ble_eq_true rfl⟩ hK hP hS (q0 := 8) rfl rfl rfl hl.1 rfl (Nat.le_of_ble_eq_true rfl) dX4_branchFar_22 ⟨Nat.zero_le _, Nat.zero_le _⟩ (fun H locs hP hS => ?_)
    refine g_Vi hx hb hml hown hg (c_X2_pair l dC dI cI cZ x hi _ _) cs_X4_156 rfl rfl ⟨Nat.le_of_ble_eq_true rfl, Nat.le_of_ble_eq_true rfl⟩ hK hP hS (q0 := 1) rfl rfl rfl hl.1 rfl (Nat.le_of_ble_eq_true rfl) dX4_branchFar_25 ⟨Nat.zero_le _, Nat.zero_le _⟩ (fun H locs hP hS => ?_)
    refine g_Vv hx hb hml hown hg (c_X4_putRegister l dC dI cI cZ x hi _ _ _) cs_X4_56 rfl rfl ⟨Nat.le_of_ble_eq_true rfl, Nat.le_of_ble_eq_true rfl⟩ hK hP hS (q0 := 8) rfl rfl rfl hl.1 rfl (Nat.le_of_ble_eq_true rfl) dX4_branchFar_28 ⟨Nat.zero_le _, Nat.zero_le _⟩ (fun H locs hP hS => ?_)
    refine lv_goto (tgt := 43) hx hb dX4_branchFar_31 (by decide) ?_
    exact g_vret hx hb hr hlocks hP hS dX4_branchFar_43 hF
def f_X4_goFar (u : BS) (p0 : Int32) : BS :=
  if p0 ≤ 3 then
    let r1 : BS := f_X4_branchFar u p0
    r1
  else
    if p0 < 9 then
      if (f_X4_skips u p0) = 0 then
        u
      else
        let r2 : BS := f_X4_grow u (bq_p u) 2
        r2
    else
      if 11 < p0 then
        if (f_X4_skips u p0) = 0 then
          u
        else
          let r3 : BS := f_X4_grow u (bq_p u) 2
          r3
      else
        let r4 : BS := f_X4_branchFar u p0
        r4
set_option maxHeartbeats 4000000 in
set_option maxRecDepth 100000 in
theorem c_X4_goFar (l : Launch) (dC : Nat → ClassId) (dI : Nat → Nat → Nat) (cI cZ : ClassId) (x : Nat → Nat) (hi : g_inj 13 x) (u : BS) (p0 : Int32) : g_Mv l yX4_goFar (.code yX4_goFar cX4_goFar 2 none) { frames := 3, cells := 0, slots := 0, locals := 65 } (dC, dI) vwCl (tysW cI cZ) (wB x cI cZ) (g_bA 13 x) u [.ref (x 8), .int p0] (f_X4_goFar u p0) := by
  refine Met.ofW (cc := cX4_goFar) (maxL := 2) (ret := none) (by decide) rfl ?_
  intro p e s m args below meth c s₁ B hml hv
  obtain ⟨rfl, hP, hK⟩ := hv
  have hx := B.exec
  have hb := B.bytes
  have hr := B.returns
  have hts := atoms_spec (ws := .code yX4_goFar cX4_goFar 2 none :: gtbl) B.pre
  have hg : ∀ w ∈ gtbl, w.before _ s = true := fun w h => hts w (List.mem_cons_of_mem _ h)
  have hown : s.vm.findClass RX4 = some m.cls := findClass_of_methodNamed B.named
  have hlocks := B.notSynchronized
  have hS : va_S (g_bA 13 x) s.heap s.heap [] := va_S.rf
  have hl := lv_entry ([.ref (x 8), .int p0]) (n := 2) (Nat.le_of_ble_eq_true rfl)
  rw [lg_entry_eq]
  generalize (lg_sl ([.ref (x 8), .int p0]) ++ List.replicate (2 - (lg_sl ([.ref (x 8), .int p0])).length) Slot.unset).toArray = ls at hl ⊢
  have hl : lv_has ls 2 [(0, .ref (x 8)), (1, .int p0)] := hl
  obtain ⟨F, hF⟩ : ∃ F, f_X4_goFar u p0 = F := ⟨_, rfl⟩
  rw [hF]
  refine lv_iload_n hx hb dX4_goFar_0 rfl (lv_at hl 1 rfl) ?_
  refine lv_iconst (v := 3) hx hb dX4_goFar_1 (by decide) ?_
  refine lv_icmp_le (tgt := 17) hx hb dX4_goFar_2 (by decide) (fun c1 => ?_) (fun c1 => ?_)
  · have hF := (if_pos c1).symm.trans hF
    refine lv_aload_n hx hb dX4_goFar_17 rfl (lv_at hl 0 rfl) ?_
    refine lv_iload_n hx hb dX4_goFar_18 rfl (lv_at hl 1 rfl) ?_
    refine g_Vv hx hb hml hown hg (c_X4_branchFar l dC dI cI cZ x hi _ _) cs_X4_150 rfl rfl ⟨Nat.le_of_ble_eq_true rfl, Nat.le_of_ble_eq_true rfl⟩ hK hP hS (q0 := 8) rfl rfl rfl hl.1 rfl (Nat.le_of_ble_eq_true rfl) dX4_goFar_19 ⟨Nat.zero_le _, Nat.zero_le _⟩ (fun H locs hP hS => ?_)
    refine lv_goto (tgt := 42) hx hb dX4_goFar_22 (by decide) ?_
    exact g_vret hx hb hr hlocks hP hS dX4_goFar_42 hF
  · have hF := (if_neg c1).symm.trans hF
    refine lv_iload_n hx hb dX4_goFar_5 rfl (lv_at hl 1 rfl) ?_
    refine lv_bipush (v := 9) hx hb dX4_goFar_6 (by decide) ?_
    refine lv_icmp_lt (tgt := 25) hx hb dX4_goFar_8 (by decide) (fun c2 => ?_) (fun c2 => ?_)
    · have hF := (if_pos c2).symm.trans hF
      refine lv_aload_n hx hb dX4_goFar_25 rfl (lv_at hl 0 rfl) ?_
      refine lv_iload_n hx hb dX4_goFar_26 rfl (lv_at hl 1 rfl) ?_
      refine g_Vi hx hb hml hown hg (c_X4_skips l dC dI cI cZ x hi _ _) cs_X4_153 rfl rfl ⟨Nat.le_of_ble_eq_true rfl, Nat.le_of_ble_eq_true rfl⟩ hK hP hS (q0 := 8) rfl rfl rfl hl.1 rfl (Nat.le_of_ble_eq_true rfl) dX4_goFar_27 ⟨Nat.zero_le _, Nat.zero_le _⟩ (fun H locs hP hS => ?_)
      refine lv_if_eq (tgt := 42) hx hb dX4_goFar_30 (by decide) (fun c3 => ?_) (fun c3 => ?_)
      · have hF := (if_pos c3).symm.trans hF
        exact g_vret hx hb hr hlocks hP hS dX4_goFar_42 hF
      · have hF := (if_neg c3).symm.trans hF
        refine lv_aload_n hx hb dX4_goFar_33 rfl (lv_at hl 0 rfl) ?_
        refine lv_aload_n hx hb dX4_goFar_34 rfl (lv_at hl 0 rfl) ?_
        refine ge_X4_p hx hb hg hown kf_X4_35 hK hP dX4_goFar_35 ?_
        refine lv_iconst (v := 2) hx hb dX4_goFar_38 (by decide) ?_
        refine g_Vv hx hb hml hown hg (c_X4_grow l dC dI cI cZ x hi _ _ _) cs_X4_81 rfl rfl ⟨Nat.le_of_ble_eq_true rfl, Nat.le_of_ble_eq_true rfl⟩ hK hP hS (q0 := 8) rfl rfl rfl hl.1 rfl (Nat.le_of_ble_eq_true rfl) dX4_goFar_39 ⟨Nat.zero_le _, Nat.zero_le _⟩ (fun H locs hP hS => ?_)
        exact g_vret hx hb hr hlocks hP hS dX4_goFar_42 hF
    · have hF := (if_neg c2).symm.trans hF
      refine lv_iload_n hx hb dX4_goFar_11 rfl (lv_at hl 1 rfl) ?_
      refine lv_bipush (v := 11) hx hb dX4_goFar_12 (by decide) ?_
      refine lv_icmp_gt (tgt := 25) hx hb dX4_goFar_14 (by decide) (fun c4 => ?_) (fun c4 => ?_)
      · have hF := (if_pos c4).symm.trans hF
        refine lv_aload_n hx hb dX4_goFar_25 rfl (lv_at hl 0 rfl) ?_
        refine lv_iload_n hx hb dX4_goFar_26 rfl (lv_at hl 1 rfl) ?_
        refine g_Vi hx hb hml hown hg (c_X4_skips l dC dI cI cZ x hi _ _) cs_X4_153 rfl rfl ⟨Nat.le_of_ble_eq_true rfl, Nat.le_of_ble_eq_true rfl⟩ hK hP hS (q0 := 8) rfl rfl rfl hl.1 rfl (Nat.le_of_ble_eq_true rfl) dX4_goFar_27 ⟨Nat.zero_le _, Nat.zero_le _⟩ (fun H locs hP hS => ?_)
        refine lv_if_eq (tgt := 42) hx hb dX4_goFar_30 (by decide) (fun c5 => ?_) (fun c5 => ?_)
        · have hF := (if_pos c5).symm.trans hF
          exact g_vret hx hb hr hlocks hP hS dX4_goFar_42 hF
        · have hF := (if_neg c5).symm.trans hF
          refine lv_aload_n hx hb dX4_goFar_33 rfl (lv_at hl 0 rfl) ?_
          refine lv_aload_n hx hb dX4_goFar_34 rfl (lv_at hl 0 rfl) ?_
          refine ge_X4_p hx hb hg hown kf_X4_35 hK hP dX4_goFar_35 ?_
          refine lv_iconst (v := 2) hx hb dX4_goFar_38 (by decide) ?_
          refine g_Vv hx hb hml hown hg (c_X4_grow l dC dI cI cZ x hi _ _ _) cs_X4_81 rfl rfl ⟨Nat.le_of_ble_eq_true rfl, Nat.le_of_ble_eq_true rfl⟩ hK hP hS (q0 := 8) rfl rfl rfl hl.1 rfl (Nat.le_of_ble_eq_true rfl) dX4_goFar_39 ⟨Nat.zero_le _, Nat.zero_le _⟩ (fun H locs hP hS => ?_)
          exact g_vret hx hb hr hlocks hP hS dX4_goFar_42 hF
      · have hF := (if_neg c4).symm.trans hF
        refine lv_aload_n hx hb dX4_goFar_17 rfl (lv_at hl 0 rfl) ?_
        refine lv_iload_n hx hb dX4_goFar_18 rfl (lv_at hl 1 rfl) ?_
        refine g_Vv hx hb hml hown hg (c_X4_branchFar l dC dI cI cZ x hi _ _) cs_X4_150 rfl rfl ⟨Nat.le_of_ble_eq_true rfl, Nat.le_of_ble_eq_true rfl⟩ hK hP hS (q0 := 8) rfl rfl rfl hl.1 rfl (Nat.le_of_ble_eq_true rfl) dX4_goFar_19 ⟨Nat.zero_le _, Nat.zero_le _⟩ (fun H locs hP hS => ?_)
        refine lv_goto (tgt := 42) hx hb dX4_goFar_22 (by decide) ?_
        exact g_vret hx hb hr hlocks hP hS dX4_goFar_42 hF
def f_X4_add (u : BS) (p0 : Int32) (p1 : Int32) : BS :=
  let t1 : Int32 := ((p0 + (bq_d u)) + p1)
  let u2 : BS := bs_d u (t1 &&& 255)
  let u3 : BS := bs_df u2 (t1 >>> ((8 : Int32) &&& 31))
  u3
set_option maxHeartbeats 4000000 in
set_option maxRecDepth 100000 in
theorem c_X4_add (l : Launch) (dC : Nat → ClassId) (dI : Nat → Nat → Nat) (cI cZ : ClassId) (x : Nat → Nat) (hi : g_inj 13 x) (u : BS) (p0 : Int32) (p1 : Int32) : g_Mv l yX4_add (.code yX4_add cX4_add 4 none) { frames := 0, cells := 0, slots := 0, locals := 0 } (dC, dI) vwCl (tysW cI cZ) (wB x cI cZ) (g_bA 13 x) u [.ref (x 8), .int p0, .int p1] (f_X4_add u p0 p1) := by
  refine Met.ofW (cc := cX4_add) (maxL := 4) (ret := none) (by decide) rfl ?_
  intro p e s m args below meth c s₁ B hml hv
  obtain ⟨rfl, hP, hK⟩ := hv
  have hx := B.exec
  have hb := B.bytes
  have hr := B.returns
  have hts := atoms_spec (ws := .code yX4_add cX4_add 4 none :: gtbl) B.pre
  have hg : ∀ w ∈ gtbl, w.before _ s = true := fun w h => hts w (List.mem_cons_of_mem _ h)
  have hown : s.vm.findClass RX4 = some m.cls := findClass_of_methodNamed B.named
  have hlocks := B.notSynchronized
  have hS : va_S (g_bA 13 x) s.heap s.heap [] := va_S.rf
  have hl := lv_entry ([.ref (x 8), .int p0, .int p1]) (n := 4) (Nat.le_of_ble_eq_true rfl)
  rw [lg_entry_eq]
  generalize (lg_sl ([.ref (x 8), .int p0, .int p1]) ++ List.replicate (4 - (lg_sl ([.ref (x 8), .int p0, .int p1])).length) Slot.unset).toArray = ls at hl ⊢
  have hl : lv_has ls 4 [(0, .ref (x 8)), (1, .int p0), (2, .int p1)] := hl
  obtain ⟨F, hF⟩ : ∃ F, f_X4_add u p0 p1 = F := ⟨_, rfl⟩
  rw [hF]
  refine lv_iload_n hx hb dX4_add_0 rfl (lv_at hl 1 rfl) ?_
  refine lv_aload_n hx hb dX4_add_1 rfl (lv_at hl 0 rfl) ?_
  refine ge_X4_d hx hb hg hown kf_X4_29 hK hP dX4_add_2 ?_
  refine lv_iadd hx hb dX4_add_5 ?_
  refine lv_iload_n hx hb dX4_add_6 rfl (lv_at hl 2 rfl) ?_
  refine lv_iadd hx hb dX4_add_7 ?_
  refine lv_istore_n hx hb dX4_add_8 rfl hl (by decide) rfl (fun ls hl => ?_)
  have hl : lv_has ls 4 [(3, _), (0, _), (1, _), (2, _)] := hl
  refine lv_aload_n hx hb dX4_add_9 rfl (lv_at hl 1 rfl) ?_
  refine lv_iload_n hx hb dX4_add_10 rfl (lv_at hl 0 rfl) ?_
  refine lv_sipush (v := 255) hx hb dX4_add_11 (by decide) ?_
  refine lv_iand hx hb dX4_add_14 ?_
  refine pu_X4_d hi hx hb hg hown kf_X4_29 hK hP hS dX4_add_15 (fun H locs hP hS => ?_)
  refine lv_aload_n hx hb dX4_add_18 rfl (lv_at hl 1 rfl) ?_
  refine lv_iload_n hx hb dX4_add_19 rfl (lv_at hl 0 rfl) ?_
  refine lv_bipush (v := 8) hx hb dX4_add_20 (by decide) ?_
  refine lv_ishr hx hb dX4_add_22 ?_
  refine pu_X4_df hi hx hb hg hown kf_X4_32 hK hP hS dX4_add_23 (fun H locs hP hS => ?_)
  exact g_vret hx hb hr hlocks hP hS dX4_add_26 hF
def f_X4_subtract (u : BS) (p0 : Int32) (p1 : Int32) (p2 : Int32) : BS :=
  let t1 : Int32 := ((p0 - p1) - p2)
  let u2 : BS := bs_d u (t1 &&& 255)
  if t1 < 0 then
    let u3 : BS := bs_df u2 0
    u3
  else
    let u4 : BS := bs_df u2 1
    u4
set_option maxHeartbeats 4000000 in
set_option maxRecDepth 100000 in
theorem c_X4_subtract (l : Launch) (dC : Nat → ClassId) (dI : Nat → Nat → Nat) (cI cZ : ClassId) (x : Nat → Nat) (hi : g_inj 13 x) (u : BS) (p0 : Int32) (p1 : Int32) (p2 : Int32) : g_Mv l yX4_subtract (.code yX4_subtract cX4_subtract 5 none) { frames := 0, cells := 0, slots := 0, locals := 0 } (dC, dI) vwCl (tysW cI cZ) (wB x cI cZ) (g_bA 13 x) u [.ref (x 8), .int p0, .int p1, .int p2] (f_X4_subtract u p0 p1 p2) := by
  refine Met.ofW (cc := cX4_subtract) (maxL := 5) (ret := none) (by decide) rfl ?_
  intro p e s m args below meth c s₁ B hml hv
  obtain ⟨rfl, hP, hK⟩ := hv
  have hx := B.exec
  have hb := B.bytes
  have hr := B.returns
  have hts := atoms_spec (ws := .code yX4_subtract cX4_subtract 5 none :: gtbl) B.pre
  have hg : ∀ w ∈ gtbl, w.before _ s = true := fun w h => hts w (List.mem_cons_of_mem _ h)
  have hown : s.vm.findClass RX4 = some m.cls := findClass_of_methodNamed B.named
  have hlocks := B.notSynchronized
  have hS : va_S (g_bA 13 x) s.heap s.heap [] := va_S.rf
  have hl := lv_entry ([.ref (x 8), .int p0, .int p1, .int p2]) (n := 5) (Nat.le_of_ble_eq_true rfl)
  rw [lg_entry_eq]
  generalize (lg_sl ([.ref (x 8), .int p0, .int p1, .int p2]) ++ List.replicate (5 - (lg_sl ([.ref (x 8), .int p0, .int p1, .int p2])).length) Slot.unset).toArray = ls at hl ⊢
  have hl : lv_has ls 5 [(0, .ref (x 8)), (1, .int p0), (2, .int p1), (3, .int p2)] := hl
  obtain ⟨F, hF⟩ : ∃ F, f_X4_subtract u p0 p1 p2 = F := ⟨_, rfl⟩
  rw [hF]
  refine lv_iload_n hx hb dX4_subtract_0 rfl (lv_at hl 1 rfl) ?_
  refine lv_iload_n hx hb dX4_subtract_1 rfl (lv_at hl 2 rfl) ?_
  refine lv_isub hx hb dX4_subtract_2 ?_
  refine lv_iload_n hx hb dX4_subtract_3 rfl (lv_at hl 3 rfl) ?_
  refine lv_isub hx hb dX4_subtract_4 ?_
  refine lv_istore hx hb dX4_subtract_5 hl (by decide) rfl (fun ls hl => ?_)
  have hl : lv_has ls 5 [(4, _), (0, _), (1, _), (2, _), (3, _)] := hl
  refine lv_aload_n hx hb dX4_subtract_7 rfl (lv_at hl 1 rfl) ?_
  refine lv_iload hx hb dX4_subtract_8 (lv_at hl 0 rfl) ?_
  refine lv_sipush (v := 255) hx hb dX4_subtract_10 (by decide) ?_
  refine lv_iand hx hb dX4_subtract_13 ?_
  refine pu_X4_d hi hx hb hg hown kf_X4_29 hK hP hS dX4_subtract_14 (fun H locs hP hS => ?_)
  refine lv_aload_n hx hb dX4_subtract_17 rfl (lv_at hl 1 rfl) ?_
  refine lv_iload hx hb dX4_subtract_18 (lv_at hl 0 rfl) ?_
  refine lv_if_lt (tgt := 27) hx hb dX4_subtract_20 (by decide) (fun c1 => ?_) (fun c1 => ?_)
  · have hF := (if_pos c1).symm.trans hF
    refine lv_iconst (v := 0) hx hb dX4_subtract_27 (by decide) ?_
    refine pu_X4_df hi hx hb hg hown kf_X4_32 hK hP hS dX4_subtract_28 (fun H locs hP hS => ?_)
    exact g_vret hx hb hr hlocks hP hS dX4_subtract_31 hF
  · have hF := (if_neg c1).symm.trans hF
    refine lv_iconst (v := 1) hx hb dX4_subtract_23 (by decide) ?_
    refine lv_goto (tgt := 28) hx hb dX4_subtract_24 (by decide) ?_
    refine pu_X4_df hi hx hb hg hown kf_X4_32 hK hP hS dX4_subtract_28 (fun H locs hP hS => ?_)
    exact g_vret hx hb hr hlocks hP hS dX4_subtract_31 hF
def f_X4_shiftRight (u : BS) (p0 : Int32) : BS :=
  let t1 : Int32 := ((bq_d u) &&& 1)
  let u2 : BS := bs_d u (((bq_d u) >>> ((1 : Int32) &&& 31)) ||| (p0 <<< ((7 : Int32) &&& 31)))
  let u3 : BS := bs_df u2 t1
  u3
set_option maxHeartbeats 4000000 in
set_option maxRecDepth 100000 in
theorem c_X4_shiftRight (l : Launch) (dC : Nat → ClassId) (dI : Nat → Nat → Nat) (cI cZ : ClassId) (x : Nat → Nat) (hi : g_inj 13 x) (u : BS) (p0 : Int32) : g_Mv l yX4_shiftRight (.code yX4_shiftRight cX4_shiftRight 3 none) { frames := 0, cells := 0, slots := 0, locals := 0 } (dC, dI) vwCl (tysW cI cZ) (wB x cI cZ) (g_bA 13 x) u [.ref (x 8), .int p0] (f_X4_shiftRight u p0) := by
  refine Met.ofW (cc := cX4_shiftRight) (maxL := 3) (ret := none) (by decide) rfl ?_
  intro p e s m args below meth c s₁ B hml hv
  obtain ⟨rfl, hP, hK⟩ := hv
  have hx := B.exec
  have hb := B.bytes
  have hr := B.returns
  have hts := atoms_spec (ws := .code yX4_shiftRight cX4_shiftRight 3 none :: gtbl) B.pre
  have hg : ∀ w ∈ gtbl, w.before _ s = true := fun w h => hts w (List.mem_cons_of_mem _ h)
  have hown : s.vm.findClass RX4 = some m.cls := findClass_of_methodNamed B.named
  have hlocks := B.notSynchronized
  have hS : va_S (g_bA 13 x) s.heap s.heap [] := va_S.rf
  have hl := lv_entry ([.ref (x 8), .int p0]) (n := 3) (Nat.le_of_ble_eq_true rfl)
  rw [lg_entry_eq]
  generalize (lg_sl ([.ref (x 8), .int p0]) ++ List.replicate (3 - (lg_sl ([.ref (x 8), .int p0])).length) Slot.unset).toArray = ls at hl ⊢
  have hl : lv_has ls 3 [(0, .ref (x 8)), (1, .int p0)] := hl
  obtain ⟨F, hF⟩ : ∃ F, f_X4_shiftRight u p0 = F := ⟨_, rfl⟩
  rw [hF]
  refine lv_aload_n hx hb dX4_shiftRight_0 rfl (lv_at hl 0 rfl) ?_
  refine ge_X4_d hx hb hg hown kf_X4_29 hK hP dX4_shiftRight_1 ?_
  refine lv_iconst (v := 1) hx hb dX4_shiftRight_4 (by decide) ?_
  refine lv_iand hx hb dX4_shiftRight_5 ?_
  refine lv_istore_n hx hb dX4_shiftRight_6 rfl hl (by decide) rfl (fun ls hl => ?_)
  have hl : lv_has ls 3 [(2, _), (0, _), (1, _)] := hl
  refine lv_aload_n hx hb dX4_shiftRight_7 rfl (lv_at hl 1 rfl) ?_
  refine lv_aload_n hx hb dX4_shiftRight_8 rfl (lv_at hl 1 rfl) ?_
  refine ge_X4_d hx hb hg hown kf_X4_29 hK hP dX4_shiftRight_9 ?_
  refine lv_iconst (v := 1) hx hb dX4_shiftRight_12 (by decide) ?_
  refine lv_ishr hx hb dX4_shiftRight_13 ?_
  refine lv_iload_n hx hb dX4_shiftRight_14 rfl (lv_at hl 2 rfl) ?_
  refine lv_bipush (v := 7) hx hb dX4_shiftRight_15 (by decide) ?_
  refine lv_ishl hx hb dX4_shiftRight_17 ?_
  refine lv_ior hx hb dX4_shiftRight_18 ?_
  refine pu_X4_d hi hx hb hg hown kf_X4_29 hK hP hS dX4_shiftRight_19 (fun H locs hP hS => ?_)
  refine lv_aload_n hx hb dX4_shiftRight_22 rfl (lv_at hl 1 rfl) ?_
  refine lv_iload_n hx hb dX4_shiftRight_23 rfl (lv_at hl 0 rfl) ?_
  refine pu_X4_df hi hx hb hg hown kf_X4_32 hK hP hS dX4_shiftRight_24 (fun H locs hP hS => ?_)
  exact g_vret hx hb hr hlocks hP hS dX4_shiftRight_27 hF
def f_X4_shiftLeft (u : BS) (p0 : Int32) : BS :=
  let t1 : Int32 := ((bq_d u) >>> ((7 : Int32) &&& 31))
  let u2 : BS := bs_d u ((((bq_d u) <<< ((1 : Int32) &&& 31)) &&& 255) ||| p0)
  let u3 : BS := bs_df u2 t1
  u3
set_option maxHeartbeats 4000000 in
set_option maxRecDepth 100000 in
theorem c_X4_shiftLeft (l : Launch) (dC : Nat → ClassId) (dI : Nat → Nat → Nat) (cI cZ : ClassId) (x : Nat → Nat) (hi : g_inj 13 x) (u : BS) (p0 : Int32) : g_Mv l yX4_shiftLeft (.code yX4_shiftLeft cX4_shiftLeft 3 none) { frames := 0, cells := 0, slots := 0, locals := 0 } (dC, dI) vwCl (tysW cI cZ) (wB x cI cZ) (g_bA 13 x) u [.ref (x 8), .int p0] (f_X4_shiftLeft u p0) := by
  refine Met.ofW (cc := cX4_shiftLeft) (maxL := 3) (ret := none) (by decide) rfl ?_
  intro p e s m args below meth c s₁ B hml hv
  obtain ⟨rfl, hP, hK⟩ := hv
  have hx := B.exec
  have hb := B.bytes
  have hr := B.returns
  have hts := atoms_spec (ws := .code yX4_shiftLeft cX4_shiftLeft 3 none :: gtbl) B.pre
  have hg : ∀ w ∈ gtbl, w.before _ s = true := fun w h => hts w (List.mem_cons_of_mem _ h)
  have hown : s.vm.findClass RX4 = some m.cls := findClass_of_methodNamed B.named
  have hlocks := B.notSynchronized
  have hS : va_S (g_bA 13 x) s.heap s.heap [] := va_S.rf
  have hl := lv_entry ([.ref (x 8), .int p0]) (n := 3) (Nat.le_of_ble_eq_true rfl)
  rw [lg_entry_eq]
  generalize (lg_sl ([.ref (x 8), .int p0]) ++ List.replicate (3 - (lg_sl ([.ref (x 8), .int p0])).length) Slot.unset).toArray = ls at hl ⊢
  have hl : lv_has ls 3 [(0, .ref (x 8)), (1, .int p0)] := hl
  obtain ⟨F, hF⟩ : ∃ F, f_X4_shiftLeft u p0 = F := ⟨_, rfl⟩
  rw [hF]
  refine lv_aload_n hx hb dX4_shiftLeft_0 rfl (lv_at hl 0 rfl) ?_
  refine ge_X4_d hx hb hg hown kf_X4_29 hK hP dX4_shiftLeft_1 ?_
  refine lv_bipush (v := 7) hx hb dX4_shiftLeft_4 (by decide) ?_
  refine lv_ishr hx hb dX4_shiftLeft_6 ?_
  refine lv_istore_n hx hb dX4_shiftLeft_7 rfl hl (by decide) rfl (fun ls hl => ?_)
  have hl : lv_has ls 3 [(2, _), (0, _), (1, _)] := hl
  refine lv_aload_n hx hb dX4_shiftLeft_8 rfl (lv_at hl 1 rfl) ?_
  refine lv_aload_n hx hb dX4_shiftLeft_9 rfl (lv_at hl 1 rfl) ?_
  refine ge_X4_d hx hb hg hown kf_X4_29 hK hP dX4_shiftLeft_10 ?_
  refine lv_iconst (v := 1) hx hb dX4_shiftLeft_13 (by decide) ?_
  refine lv_ishl hx hb dX4_shiftLeft_14 ?_
  refine lv_sipush (v := 255) hx hb dX4_shiftLeft_15 (by decide) ?_
  refine lv_iand hx hb dX4_shiftLeft_18 ?_
  refine lv_iload_n hx hb dX4_shiftLeft_19 rfl (lv_at hl 2 rfl) ?_
  refine lv_ior hx hb dX4_shiftLeft_20 ?_
  refine pu_X4_d hi hx hb hg hown kf_X4_29 hK hP hS dX4_shiftLeft_21 (fun H locs hP hS => ?_)
  refine lv_aload_n hx hb dX4_shiftLeft_24 rfl (lv_at hl 1 rfl) ?_
  refine lv_iload_n hx hb dX4_shiftLeft_25 rfl (lv_at hl 0 rfl) ?_
  refine pu_X4_df hi hx hb hg hown kf_X4_32 hK hP hS dX4_shiftLeft_26 (fun H locs hP hS => ?_)
  exact g_vret hx hb hr hlocks hP hS dX4_shiftLeft_29 hF
def f_X4_combine (u : BS) (p0 : Int32) (p1 : Int32) (p2 : Int32) (p3 : Int32) : BS :=
  if p0 = 0 then
    let u1 : BS := bs_d u p1
    u1
  else
    if p0 = 1 then
      let u2 : BS := bs_d u ((bq_d u) ||| p1)
      u2
    else
      if p0 = 2 then
        let u3 : BS := bs_d u ((bq_d u) &&& p1)
        u3
      else
        if p0 = 3 then
          let u4 : BS := bs_d u ((bq_d u) ^^^ p1)
          u4
        else
          if p0 = 4 then
            let r5 : BS := f_X4_add u p1 p2
            r5
          else
            if p0 = 5 then
              let r6 : BS := f_X4_subtract u p1 (bq_d u) p3
              r6
            else
              let r7 : BS := f_X4_subtract u (bq_d u) p1 p3
              r7
set_option maxHeartbeats 4000000 in
set_option maxRecDepth 100000 in
theorem c_X4_combine (l : Launch) (dC : Nat → ClassId) (dI : Nat → Nat → Nat) (cI cZ : ClassId) (x : Nat → Nat) (hi : g_inj 13 x) (u : BS) (p0 : Int32) (p1 : Int32) (p2 : Int32) (p3 : Int32) : g_Mv l yX4_combine (.code yX4_combine cX4_combine 5 none) { frames := 1, cells := 0, slots := 0, locals := 24 } (dC, dI) vwCl (tysW cI cZ) (wB x cI cZ) (g_bA 13 x) u [.ref (x 8), .int p0, .int p1, .int p2, .int p3] (f_X4_combine u p0 p1 p2 p3) := by
  refine Met.ofW (cc := cX4_combine) (maxL := 5) (ret := none) (by decide) rfl ?_
  intro p e s m args below meth c s₁ B hml hv
  obtain ⟨rfl, hP, hK⟩ := hv
  have hx := B.exec
  have hb := B.bytes
  have hr := B.returns
  have hts := atoms_spec (ws := .code yX4_combine cX4_combine 5 none :: gtbl) B.pre
  have hg : ∀ w ∈ gtbl, w.before _ s = true := fun w h => hts w (List.mem_cons_of_mem _ h)
  have hown : s.vm.findClass RX4 = some m.cls := findClass_of_methodNamed B.named
  have hlocks := B.notSynchronized
  have hS : va_S (g_bA 13 x) s.heap s.heap [] := va_S.rf
  have hl := lv_entry ([.ref (x 8), .int p0, .int p1, .int p2, .int p3]) (n := 5) (Nat.le_of_ble_eq_true rfl)
  rw [lg_entry_eq]
  generalize (lg_sl ([.ref (x 8), .int p0, .int p1, .int p2, .int p3]) ++ List.replicate (5 - (lg_sl ([.ref (x 8), .int p0, .int p1, .int p2, .int p3])).length) Slot.unset).toArray = ls at hl ⊢
  have hl : lv_has ls 5 [(0, .ref (x 8)), (1, .int p0), (2, .int p1), (3, .int p2), (4, .int p3)] := hl
  obtain ⟨F, hF⟩ : ∃ F, f_X4_combine u p0 p1 p2 p3 = F := ⟨_, rfl⟩
  rw [hF]
  refine lv_iload_n hx hb dX4_combine_0 rfl (lv_at hl 1 rfl) ?_
  refine sw_case (v := 0) (fun c1 => ?_) (fun c1 => ?_)
  · have hF := (if_pos c1).symm.trans hF
    refine sw_in (off := 39) (tgt := 40) 0 hx hb dX4_combine_1 c1 (by decide) (by decide) ?_
    refine lv_aload_n hx hb dX4_combine_40 rfl (lv_at hl 0 rfl) ?_
    refine lv_iload_n hx hb dX4_combine_41 rfl (lv_at hl 2 rfl) ?_
    refine pu_X4_d hi hx hb hg hown kf_X4_29 hK hP hS dX4_combine_42 (fun H locs hP hS => ?_)
    refine lv_goto (tgt := 121) hx hb dX4_combine_45 (by decide) ?_
    exact g_vret hx hb hr hlocks hP hS dX4_combine_121 hF
  · have hF := (if_neg c1).symm.trans hF
    refine sw_case (v := 1) (fun c2 => ?_) (fun c2 => ?_)
    · have hF := (if_pos c2).symm.trans hF
      refine sw_in (off := 47) (tgt := 48) 1 hx hb dX4_combine_1 c2 (by decide) (by decide) ?_
      refine lv_aload_n hx hb dX4_combine_48 rfl (lv_at hl 0 rfl) ?_
      refine lv_aload_n hx hb dX4_combine_49 rfl (lv_at hl 0 rfl) ?_
      refine ge_X4_d hx hb hg hown kf_X4_29 hK hP dX4_combine_50 ?_
      refine lv_iload_n hx hb dX4_combine_53 rfl (lv_at hl 2 rfl) ?_
      refine lv_ior hx hb dX4_combine_54 ?_
      refine pu_X4_d hi hx hb hg hown kf_X4_29 hK hP hS dX4_combine_55 (fun H locs hP hS => ?_)
      refine lv_goto (tgt := 121) hx hb dX4_combine_58 (by decide) ?_
      exact g_vret hx hb hr hlocks hP hS dX4_combine_121 hF
    · have hF := (if_neg c2).symm.trans hF
      refine sw_case (v := 2) (fun c3 => ?_) (fun c3 => ?_)
      · have hF := (if_pos c3).symm.trans hF
        refine sw_in (off := 60) (tgt := 61) 2 hx hb dX4_combine_1 c3 (by decide) (by decide) ?_
        refine lv_aload_n hx hb dX4_combine_61 rfl (lv_at hl 0 rfl) ?_
        refine lv_aload_n hx hb dX4_combine_62 rfl (lv_at hl 0 rfl) ?_
        refine ge_X4_d hx hb hg hown kf_X4_29 hK hP dX4_combine_63 ?_
        refine lv_iload_n hx hb dX4_combine_66 rfl (lv_at hl 2 rfl) ?_
        refine lv_iand hx hb dX4_combine_67 ?_
        refine pu_X4_d hi hx hb hg hown kf_X4_29 hK hP hS dX4_combine_68 (fun H locs hP hS => ?_)
        refine lv_goto (tgt := 121) hx hb dX4_combine_71 (by decide) ?_
        exact g_vret hx hb hr hlocks hP hS dX4_combine_121 hF
      · have hF := (if_neg c3).symm.trans hF
        refine sw_case (v := 3) (fun c4 => ?_) (fun c4 => ?_)
        · have hF := (if_pos c4).symm.trans hF
          refine sw_in (off := 73) (tgt := 74) 3 hx hb dX4_combine_1 c4 (by decide) (by decide) ?_
          refine lv_aload_n hx hb dX4_combine_74 rfl (lv_at hl 0 rfl) ?_
          refine lv_aload_n hx hb dX4_combine_75 rfl (lv_at hl 0 rfl) ?_
          refine ge_X4_d hx hb hg hown kf_X4_29 hK hP dX4_combine_76 ?_
          refine lv_iload_n hx hb dX4_combine_79 rfl (lv_at hl 2 rfl) ?_
          refine lv_ixor hx hb dX4_combine_80 ?_
          refine pu_X4_d hi hx hb hg hown kf_X4_29 hK hP hS dX4_combine_81 (fun H locs hP hS => ?_)
          refine lv_goto (tgt := 121) hx hb dX4_combine_84 (by decide) ?_
          exact g_vret hx hb hr hlocks hP hS dX4_combine_121 hF
        · have hF := (if_neg c4).symm.trans hF
          refine sw_case (v := 4) (fun c5 => ?_) (fun c5 => ?_)
          · have hF := (if_pos c5).symm.trans hF
            refine sw_in (off := 86) (tgt := 87) 4 hx hb dX4_combine_1 c5 (by decide) (by decide) ?_
            refine lv_aload_n hx hb dX4_combine_87 rfl (lv_at hl 0 rfl) ?_
            refine lv_iload_n hx hb dX4_combine_88 rfl (lv_at hl 2 rfl) ?_
            refine lv_iload_n hx hb dX4_combine_89 rfl (lv_at hl 3 rfl) ?_
            refine g_Vv hx hb hml hown hg (c_X4_add l dC dI cI cZ x hi _ _ _) cs_X4_159 rfl rfl ⟨Nat.le_of_ble_eq_true rfl, Nat.le_of_ble_eq_true rfl⟩ hK hP hS (q0 := 8) rfl rfl rfl hl.1 rfl (Nat.le_of_ble_eq_true rfl) dX4_combine_90 ⟨Nat.zero_le _, Nat.zero_le _⟩ (fun H locs hP hS => ?_)
            refine lv_goto (tgt := 121) hx hb dX4_combine_93 (by decide) ?_
            exact g_vret hx hb hr hlocks hP hS dX4_combine_121 hF
          · have hF := (if_neg c5).symm.trans hF
            refine sw_case (v := 5) (fun c6 => ?_) (fun c6 => ?_)
            · have hF := (if_pos c6).symm.trans hF
              refine sw_in (off := 95) (tgt := 96) 5 hx hb dX4_combine_1 c6 (by decide) (by decide) ?_
              refine lv_aload_n hx hb dX4_combine_96 rfl (lv_at hl 0 rfl) ?_
              refine lv_iload_n hx hb dX4_combine_97 rfl (lv_at hl 2 rfl) ?_
              refine lv_aload_n hx hb dX4_combine_98 rfl (lv_at hl 0 rfl) ?_
              refine ge_X4_d hx hb hg hown kf_X4_29 hK hP dX4_combine_99 ?_
              refine lv_iload hx hb dX4_combine_102 (lv_at hl 4 rfl) ?_
              refine g_Vv hx hb hml hown hg (c_X4_subtract l dC dI cI cZ x hi _ _ _ _) cs_X4_162 rfl rfl ⟨Nat.le_of_ble_eq_true rfl, Nat.le_of_ble_eq_true rfl⟩ hK hP hS (q0 := 8) rfl rfl rfl hl.1 rfl (Nat.le_of_ble_eq_true rfl) dX4_combine_104 ⟨Nat.zero_le _, Nat.zero_le _⟩ (fun H locs hP hS => ?_)
              refine lv_goto (tgt := 121) hx hb dX4_combine_107 (by decide) ?_
              exact g_vret hx hb hr hlocks hP hS dX4_combine_121 hF
            · have hF := (if_neg c6).symm.trans hF
              refine sw_def (tgt := 110) [0, 1, 2, 3, 4, 5] hx hb dX4_combine_1 (List.forall_mem_cons.mpr ⟨c1, List.forall_mem_cons.mpr ⟨c2, List.forall_mem_cons.mpr ⟨c3, List.forall_mem_cons.mpr ⟨c4, List.forall_mem_cons.mpr ⟨c5, List.forall_mem_cons.mpr ⟨c6, fun _ h => absurd h List.not_mem_nil⟩⟩⟩⟩⟩⟩) (by decide) (by decide) ?_
              refine lv_aload_n hx hb dX4_combine_110 rfl (lv_at hl 0 rfl) ?_
              refine lv_aload_n hx hb dX4_combine_111 rfl (lv_at hl 0 rfl) ?_
              refine ge_X4_d hx hb hg hown kf_X4_29 hK hP dX4_combine_112 ?_
              refine lv_iload_n hx hb dX4_combine_115 rfl (lv_at hl 2 rfl) ?_
              refine lv_iload hx hb dX4_combine_116 (lv_at hl 4 rfl) ?_
              refine g_Vv hx hb hml hown hg (c_X4_subtract l dC dI cI cZ x hi _ _ _ _) cs_X4_162 rfl rfl ⟨Nat.le_of_ble_eq_true rfl, Nat.le_of_ble_eq_true rfl⟩ hK hP hS (q0 := 8) rfl rfl rfl hl.1 rfl (Nat.le_of_ble_eq_true rfl) dX4_combine_118 ⟨Nat.zero_le _, Nat.zero_le _⟩ (fun H locs hP hS => ?_)
              exact g_vret hx hb hr hlocks hP hS dX4_combine_121 hF
def f_X4_operand (u : BS) (p0 : Int32) : Int32 × BS :=
  if 8 ≤ p0 then
    let r1 : Int32 × BS := f_X4_take u (bq_p u)
    (r1.1, r1.2)
  else
    ((f_X4_at u (bq_x u)), u)
set_option maxHeartbeats 4000000 in
set_option maxRecDepth 100000 in
theorem c_X4_operand (l : Launch) (dC : Nat → ClassId) (dI : Nat → Nat → Nat) (cI cZ : ClassId) (x : Nat → Nat) (hi : g_inj 13 x) (u : BS) (p0 : Int32) : g_Mi l yX4_operand (.code yX4_operand cX4_operand 2 (some .int)) { frames := 2, cells := 0, slots := 0, locals := 43 } (dC, dI) vwCl (tysW cI cZ) (wB x cI cZ) (g_bA 13 x) u [.ref (x 8), .int p0] (f_X4_operand u p0).1 (f_X4_operand u p0).2 := by
  refine Met.ofW (cc := cX4_operand) (maxL := 2) (ret := (some .int)) (by decide) rfl ?_
  intro p e s m args below meth c s₁ B hml hv
  obtain ⟨rfl, hP, hK⟩ := hv
  have hx := B.exec
  have hb := B.bytes
  have hr := B.returns
  have hts := atoms_spec (ws := .code yX4_operand cX4_operand 2 (some .int) :: gtbl) B.pre
  have hg : ∀ w ∈ gtbl, w.before _ s = true := fun w h => hts w (List.mem_cons_of_mem _ h)
  have hown : s.vm.findClass RX4 = some m.cls := findClass_of_methodNamed B.named
  have hlocks := B.notSynchronized
  have hS : va_S (g_bA 13 x) s.heap s.heap [] := va_S.rf
  have hl := lv_entry ([.ref (x 8), .int p0]) (n := 2) (Nat.le_of_ble_eq_true rfl)
  rw [lg_entry_eq]
  generalize (lg_sl ([.ref (x 8), .int p0]) ++ List.replicate (2 - (lg_sl ([.ref (x 8), .int p0])).length) Slot.unset).toArray = ls at hl ⊢
  have hl : lv_has ls 2 [(0, .ref (x 8)), (1, .int p0)] := hl
  obtain ⟨F, hF⟩ : ∃ F, f_X4_operand u p0 = F := ⟨_, rfl⟩
  rw [hF]
  refine lv_iload_n hx hb dX4_operand_0 rfl (lv_at hl 1 rfl) ?_
  refine lv_bipush (v := 8) hx hb dX4_operand_1 (by decide) ?_
  refine lv_icmp_ge (tgt := 17) hx hb dX4_operand_3 (by decide) (fun c1 => ?_) (fun c1 => ?_)
  · have hF := (if_pos c1).symm.trans hF
    refine lv_aload_n hx hb dX4_operand_17 rfl (lv_at hl 0 rfl) ?_
    refine lv_aload_n hx hb dX4_operand_18 rfl (lv_at hl 0 rfl) ?_
    refine ge_X4_p hx hb hg hown kf_X4_35 hK hP dX4_operand_19 ?_
    refine g_Vi hx hb hml hown hg (c_X4_take l dC dI cI cZ x hi _ _) cs_X4_63 rfl rfl ⟨Nat.le_of_ble_eq_true rfl, Nat.le_of_ble_eq_true rfl⟩ hK hP hS (q0 := 8) rfl rfl rfl hl.1 rfl (Nat.le_of_ble_eq_true rfl) dX4_operand_22 ⟨Nat.zero_le _, Nat.zero_le _⟩ (fun H locs hP hS => ?_)
    have hF : (_, _) = F := hF
    exact g_iret hx hb hr hlocks hP hS dX4_operand_25 (g_p1 hF) (g_p2 hF)
  · have hF := (if_neg c1).symm.trans hF
    refine lv_aload_n hx hb dX4_operand_6 rfl (lv_at hl 0 rfl) ?_
    refine lv_aload_n hx hb dX4_operand_7 rfl (lv_at hl 0 rfl) ?_
    refine ge_X4_x hx hb hg hown kf_X4_38 hK hP dX4_operand_8 ?_
    refine g_Vi hx hb hml hown hg (c_X4_at l dC dI cI cZ x hi _ _) cs_X4_103 rfl rfl ⟨Nat.le_of_ble_eq_true rfl, Nat.le_of_ble_eq_true rfl⟩ hK hP hS (q0 := 8) rfl rfl rfl hl.1 rfl (Nat.le_of_ble_eq_true rfl) dX4_operand_11 ⟨Nat.zero_le _, Nat.zero_le _⟩ (fun H locs hP hS => ?_)
    refine lv_goto (tgt := 25) hx hb dX4_operand_14 (by decide) ?_
    have hF : (_, _) = F := hF
    exact g_iret hx hb hr hlocks hP hS dX4_operand_25 (g_p1 hF) (g_p2 hF)
