def f_X4_control (u : BS) (p0 : Int32) : BS :=
  if p0 = 0 then
    let r1 : BS := f_X4_resume u ((1 : Int32) - p0)
    r1
  else
    if p0 = 1 then
      let r2 : BS := f_X4_resume u ((1 : Int32) - p0)
      r2
    else
      if p0 = 2 then
        let r3 : Int32 × BS := f_X4_take u (bq_x u)
        let u4 : BS := bs_d r3.2 r3.1
        u4
      else
        if p0 = 3 then
          let r5 : BS := f_X4_putAt u (bq_x u) (bq_d u)
          let r6 : BS := f_X4_grow r5 (bq_x r5) (-1)
          r6
        else
          if p0 = 6 then
            let r7 : BS := f_X4_shiftRight u (bq_df u)
            r7
          else
            if p0 = 8 then
              let r8 : BS := f_X4_putAt u (bq_x u) (bq_t u)
              r8
            else
              if p0 = 9 then
                let r9 : BS := f_X4_mark u
                r9
              else
                if p0 = 10 then
                  let u10 : BS := bs_q u (p0 - 10)
                  u10
                else
                  if p0 = 11 then
                    let u11 : BS := bs_q u (p0 - 10)
                    u11
                  else
                    if p0 = 14 then
                      let r12 : BS := f_X4_shiftLeft u (bq_df u)
                      r12
                    else
                      let r13 : Int32 × BS := f_X4_operand u p0
                      let r14 : BS := f_X4_combine r13.2 (p0 &&& 7) r13.1 (bq_df r13.2) ((1 : Int32) - (bq_df r13.2))
                      r14
set_option maxHeartbeats 4000000 in
set_option maxRecDepth 100000 in
theorem c_X4_control (l : Launch) (dC : Nat → ClassId) (dI : Nat → Nat → Nat) (cI cZ : ClassId) (x : Nat → Nat) (hi : g_inj 13 x) (u : BS) (p0 : Int32) : g_Mv l yX4_control (.code yX4_control cX4_control 2 none) { frames := 3, cells := 0, slots := 0, locals := 65 } (dC, dI) vwCl (tysW cI cZ) (wB x cI cZ) (g_bA 13 x) u [.ref (x 8), .int p0] (f_X4_control u p0) := by
  refine Met.ofW (cc := cX4_control) (maxL := 2) (ret := none) (by decide) rfl ?_
  intro p e s m args below meth c s₁ B hml hv
  obtain ⟨rfl, hP, hK⟩ := hv
  have hx := B.exec
  have hb := B.bytes
  have hr := B.returns
  have hts := atoms_spec (ws := .code yX4_control cX4_control 2 none :: gtbl) B.pre
  have hg : ∀ w ∈ gtbl, w.before _ s = true := fun w h => hts w (List.mem_cons_of_mem _ h)
  have hown : s.vm.findClass RX4 = some m.cls := findClass_of_methodNamed B.named
  have hlocks := B.notSynchronized
  have hS : va_S (g_bA 13 x) s.heap s.heap [] := va_S.rf
  have hl := lv_entry ([.ref (x 8), .int p0]) (n := 2) (Nat.le_of_ble_eq_true rfl)
  rw [lg_entry_eq]
  generalize (lg_sl ([.ref (x 8), .int p0]) ++ List.replicate (2 - (lg_sl ([.ref (x 8), .int p0])).length) Slot.unset).toArray = ls at hl ⊢
  have hl : lv_has ls 2 [(0, .ref (x 8)), (1, .int p0)] := hl
  obtain ⟨F, hF⟩ : ∃ F, f_X4_control u p0 = F := ⟨_, rfl⟩
  rw [hF]
  refine lv_iload_n hx hb dX4_control_0 rfl (lv_at hl 1 rfl) ?_
  refine sw_case (v := 0) (fun c1 => ?_) (fun c1 => ?_)
  · have hF := (if_pos c1).symm.trans hF
    refine sw_in (off := 75) (tgt := 76) 0 hx hb dX4_control_1 c1 (by decide) (by decide) ?_
    refine lv_aload_n hx hb dX4_control_76 rfl (lv_at hl 0 rfl) ?_
    refine lv_iconst (v := 1) hx hb dX4_control_77 (by decide) ?_
    refine lv_iload_n hx hb dX4_control_78 rfl (lv_at hl 1 rfl) ?_
    refine lv_isub hx hb dX4_control_79 ?_
    refine g_Vv hx hb hml hown hg (c_X4_resume l dC dI cI cZ x hi _ _) cs_X4_131 rfl rfl ⟨Nat.le_of_ble_eq_true rfl, Nat.le_of_ble_eq_true rfl⟩ hK hP hS (q0 := 8) rfl rfl rfl hl.1 rfl (Nat.le_of_ble_eq_true rfl) dX4_control_80 ⟨Nat.zero_le _, Nat.zero_le _⟩ (fun H locs hP hS => ?_)
    refine lv_goto (tgt := 203) hx hb dX4_control_83 (by decide) ?_
    exact g_vret hx hb hr hlocks hP hS dX4_control_203 hF
  · have hF := (if_neg c1).symm.trans hF
    refine sw_case (v := 1) (fun c2 => ?_) (fun c2 => ?_)
    · have hF := (if_pos c2).symm.trans hF
      refine sw_in (off := 75) (tgt := 76) 1 hx hb dX4_control_1 c2 (by decide) (by decide) ?_
      refine lv_aload_n hx hb dX4_control_76 rfl (lv_at hl 0 rfl) ?_
      refine lv_iconst (v := 1) hx hb dX4_control_77 (by decide) ?_
      refine lv_iload_n hx hb dX4_control_78 rfl (lv_at hl 1 rfl) ?_
      refine lv_isub hx hb dX4_control_79 ?_
      refine g_Vv hx hb hml hown hg (c_X4_resume l dC dI cI cZ x hi _ _) cs_X4_131 rfl rfl ⟨Nat.le_of_ble_eq_true rfl, Nat.le_of_ble_eq_true rfl⟩ hK hP hS (q0 := 8) rfl rfl rfl hl.1 rfl (Nat.le_of_ble_eq_true rfl) dX4_control_80 ⟨Nat.zero_le _, Nat.zero_le _⟩ (fun H locs hP hS => ?_)
      refine lv_goto (tgt := 203) hx hb dX4_control_83 (by decide) ?_
      exact g_vret hx hb hr hlocks hP hS dX4_control_203 hF
    · have hF := (if_neg c2).symm.trans hF
      refine sw_case (v := 2) (fun c3 => ?_) (fun c3 => ?_)
      · have hF := (if_pos c3).symm.trans hF
        refine sw_in (off := 85) (tgt := 86) 2 hx hb dX4_control_1 c3 (by decide) (by decide) ?_
        refine lv_aload_n hx hb dX4_control_86 rfl (lv_at hl 0 rfl) ?_
        refine lv_aload_n hx hb dX4_control_87 rfl (lv_at hl 0 rfl) ?_
        refine lv_aload_n hx hb dX4_control_88 rfl (lv_at hl 0 rfl) ?_
        refine ge_X4_x hx hb hg hown kf_X4_38 hK hP dX4_control_89 ?_
        refine g_Vi hx hb hml hown hg (c_X4_take l dC dI cI cZ x hi _ _) cs_X4_63 rfl rfl ⟨Nat.le_of_ble_eq_true rfl, Nat.le_of_ble_eq_true rfl⟩ hK hP hS (q0 := 8) rfl rfl rfl hl.1 rfl (Nat.le_of_ble_eq_true rfl) dX4_control_92 ⟨Nat.zero_le _, Nat.zero_le _⟩ (fun H locs hP hS => ?_)
        refine pu_X4_d hi hx hb hg hown kf_X4_29 hK hP hS dX4_control_95 (fun H locs hP hS => ?_)
        refine lv_goto (tgt := 203) hx hb dX4_control_98 (by decide) ?_
        exact g_vret hx hb hr hlocks hP hS dX4_control_203 hF
      · have hF := (if_neg c3).symm.trans hF
        refine sw_case (v := 3) (fun c4 => ?_) (fun c4 => ?_)
        · have hF := (if_pos c4).symm.trans hF
          refine sw_in (off := 100) (tgt := 101) 3 hx hb dX4_control_1 c4 (by decide) (by decide) ?_
          refine lv_aload_n hx hb dX4_control_101 rfl (lv_at hl 0 rfl) ?_
          refine lv_aload_n hx hb dX4_control_102 rfl (lv_at hl 0 rfl) ?_
          refine ge_X4_x hx hb hg hown kf_X4_38 hK hP dX4_control_103 ?_
          refine lv_aload_n hx hb dX4_control_106 rfl (lv_at hl 0 rfl) ?_
          refine ge_X4_d hx hb hg hown kf_X4_29 hK hP dX4_control_107 ?_
          refine g_Vv hx hb hml hown hg (c_X4_putAt l dC dI cI cZ x hi _ _ _) cs_X4_87 rfl rfl ⟨Nat.le_of_ble_eq_true rfl, Nat.le_of_ble_eq_true rfl⟩ hK hP hS (q0 := 8) rfl rfl rfl hl.1 rfl (Nat.le_of_ble_eq_true rfl) dX4_control_110 ⟨Nat.zero_le _, Nat.zero_le _⟩ (fun H locs hP hS => ?_)
          refine lv_aload_n hx hb dX4_control_113 rfl (lv_at hl 0 rfl) ?_
          refine lv_aload_n hx hb dX4_control_114 rfl (lv_at hl 0 rfl) ?_
          refine ge_X4_x hx hb hg hown kf_X4_38 hK hP dX4_control_115 ?_
          refine lv_iconst (v := (-1)) hx hb dX4_control_118 (by decide) ?_
          refine g_Vv hx hb hml hown hg (c_X4_grow l dC dI cI cZ x hi _ _ _) cs_X4_81 rfl rfl ⟨Nat.le_of_ble_eq_true rfl, Nat.le_of_ble_eq_true rfl⟩ hK hP hS (q0 := 8) rfl rfl rfl hl.1 rfl (Nat.le_of_ble_eq_true rfl) dX4_control_119 ⟨Nat.zero_le _, Nat.zero_le _⟩ (fun H locs hP hS => ?_)
          refine lv_goto (tgt := 203) hx hb dX4_control_122 (by decide) ?_
          exact g_vret hx hb hr hlocks hP hS dX4_control_203 hF
        · have hF := (if_neg c4).symm.trans hF
          refine sw_case (v := 6) (fun c5 => ?_) (fun c5 => ?_)
          · have hF := (if_pos c5).symm.trans hF
            refine sw_in (off := 124) (tgt := 125) 6 hx hb dX4_control_1 c5 (by decide) (by decide) ?_
            refine lv_aload_n hx hb dX4_control_125 rfl (lv_at hl 0 rfl) ?_
            refine lv_aload_n hx hb dX4_control_126 rfl (lv_at hl 0 rfl) ?_
            refine ge_X4_df hx hb hg hown kf_X4_32 hK hP dX4_control_127 ?_
            refine g_Vv hx hb hml hown hg (c_X4_shiftRight l dC dI cI cZ x hi _ _) cs_X4_134 rfl rfl ⟨Nat.le_of_ble_eq_true rfl, Nat.le_of_ble_eq_true rfl⟩ hK hP hS (q0 := 8) rfl rfl rfl hl.1 rfl (Nat.le_of_ble_eq_true rfl) dX4_control_130 ⟨Nat.zero_le _, Nat.zero_le _⟩ (fun H locs hP hS => ?_)
            refine lv_goto (tgt := 203) hx hb dX4_control_133 (by decide) ?_
            exact g_vret hx hb hr hlocks hP hS dX4_control_203 hF
          · have hF := (if_neg c5).symm.trans hF
            refine sw_case (v := 8) (fun c6 => ?_) (fun c6 => ?_)
            · have hF := (if_pos c6).symm.trans hF
              refine sw_in (off := 135) (tgt := 136) 8 hx hb dX4_control_1 c6 (by decide) (by decide) ?_
              refine lv_aload_n hx hb dX4_control_136 rfl (lv_at hl 0 rfl) ?_
              refine lv_aload_n hx hb dX4_control_137 rfl (lv_at hl 0 rfl) ?_
              refine ge_X4_x hx hb hg hown kf_X4_38 hK hP dX4_control_138 ?_
              refine lv_aload_n hx hb dX4_control_141 rfl (lv_at hl 0 rfl) ?_
              refine ge_X4_t hx hb hg hown kf_X4_41 hK hP dX4_control_142 ?_
              refine g_Vv hx hb hml hown hg (c_X4_putAt l dC dI cI cZ x hi _ _ _) cs_X4_87 rfl rfl ⟨Nat.le_of_ble_eq_true rfl, Nat.le_of_ble_eq_true rfl⟩ hK hP hS (q0 := 8) rfl rfl rfl hl.1 rfl (Nat.le_of_ble_eq_true rfl) dX4_control_145 ⟨Nat.zero_le _, Nat.zero_le _⟩ (fun H locs hP hS => ?_)
              refine lv_goto (tgt := 203) hx hb dX4_control_148 (by decide) ?_
              exact g_vret hx hb hr hlocks hP hS dX4_control_203 hF
            · have hF := (if_neg c6).symm.trans hF
              refine sw_case (v := 9) (fun c7 => ?_) (fun c7 => ?_)
              · have hF := (if_pos c7).symm.trans hF
                refine sw_in (off := 150) (tgt := 151) 9 hx hb dX4_control_1 c7 (by decide) (by decide) ?_
                refine lv_aload_n hx hb dX4_control_151 rfl (lv_at hl 0 rfl) ?_
                refine g_Vv hx hb hml hown hg (c_X4_mark l dC dI cI cZ x hi _) cs_X4_137 rfl rfl ⟨Nat.le_of_ble_eq_true rfl, Nat.le_of_ble_eq_true rfl⟩ hK hP hS (q0 := 8) rfl rfl rfl hl.1 rfl (Nat.le_of_ble_eq_true rfl) dX4_control_152 ⟨Nat.zero_le _, Nat.zero_le _⟩ (fun H locs hP hS => ?_)
                refine lv_goto (tgt := 203) hx hb dX4_control_155 (by decide) ?_
                exact g_vret hx hb hr hlocks hP hS dX4_control_203 hF
              · have hF := (if_neg c7).symm.trans hF
                refine sw_case (v := 10) (fun c8 => ?_) (fun c8 => ?_)
                · have hF := (if_pos c8).symm.trans hF
                  refine sw_in (off := 157) (tgt := 158) 10 hx hb dX4_control_1 c8 (by decide) (by decide) ?_
                  refine lv_aload_n hx hb dX4_control_158 rfl (lv_at hl 0 rfl) ?_
                  refine lv_iload_n hx hb dX4_control_159 rfl (lv_at hl 1 rfl) ?_
                  refine lv_bipush (v := 10) hx hb dX4_control_160 (by decide) ?_
                  refine lv_isub hx hb dX4_control_162 ?_
                  refine pu_X4_q hi hx hb hg hown kf_X4_44 hK hP hS dX4_control_163 (fun H locs hP hS => ?_)
                  refine lv_goto (tgt := 203) hx hb dX4_control_166 (by decide) ?_
                  exact g_vret hx hb hr hlocks hP hS dX4_control_203 hF
                · have hF := (if_neg c8).symm.trans hF
                  refine sw_case (v := 11) (fun c9 => ?_) (fun c9 => ?_)
                  · have hF := (if_pos c9).symm.trans hF
                    refine sw_in (off := 157) (tgt := 158) 11 hx hb dX4_control_1 c9 (by decide) (by decide) ?_
                    refine lv_aload_n hx hb dX4_control_158 rfl (lv_at hl 0 rfl) ?_
                    refine lv_iload_n hx hb dX4_control_159 rfl (lv_at hl 1 rfl) ?_
                    refine lv_bipush (v := 10) hx hb dX4_control_160 (by decide) ?_
                    refine lv_isub hx hb dX4_control_162 ?_
                    refine pu_X4_q hi hx hb hg hown kf_X4_44 hK hP hS dX4_control_163 (fun H locs hP hS => ?_)
                    refine lv_goto (tgt := 203) hx hb dX4_control_166 (by decide) ?_
                    exact g_vret hx hb hr hlocks hP hS dX4_control_203 hF
                  · have hF := (if_neg c9).symm.trans hF
                    refine sw_case (v := 14) (fun c10 => ?_) (fun c10 => ?_)
                    · have hF := (if_pos c10).symm.trans hF
                      refine sw_in (off := 168) (tgt := 169) 14 hx hb dX4_control_1 c10 (by decide) (by decide) ?_
                      refine lv_aload_n hx hb dX4_control_169 rfl (lv_at hl 0 rfl) ?_
                      refine lv_aload_n hx hb dX4_control_170 rfl (lv_at hl 0 rfl) ?_
                      refine ge_X4_df hx hb hg hown kf_X4_32 hK hP dX4_control_171 ?_
                      refine g_Vv hx hb hml hown hg (c_X4_shiftLeft l dC dI cI cZ x hi _ _) cs_X4_140 rfl rfl ⟨Nat.le_of_ble_eq_true rfl, Nat.le_of_ble_eq_true rfl⟩ hK hP hS (q0 := 8) rfl rfl rfl hl.1 rfl (Nat.le_of_ble_eq_true rfl) dX4_control_174 ⟨Nat.zero_le _, Nat.zero_le _⟩ (fun H locs hP hS => ?_)
                      refine lv_goto (tgt := 203) hx hb dX4_control_177 (by decide) ?_
                      exact g_vret hx hb hr hlocks hP hS dX4_control_203 hF
                    · have hF := (if_neg c10).symm.trans hF
                      refine sw_def (tgt := 180) [0, 1, 2, 3, 6, 8, 9, 10, 11, 14] hx hb dX4_control_1 (List.forall_mem_cons.mpr ⟨c1, List.forall_mem_cons.mpr ⟨c2, List.forall_mem_cons.mpr ⟨c3, List.forall_mem_cons.mpr ⟨c4, List.forall_mem_cons.mpr ⟨c5, List.forall_mem_cons.mpr ⟨c6, List.forall_mem_cons.mpr ⟨c7, List.forall_mem_cons.mpr ⟨c8, List.forall_mem_cons.mpr ⟨c9, List.forall_mem_cons.mpr ⟨c10, fun _ h => absurd h List.not_mem_nil⟩⟩⟩⟩⟩⟩⟩⟩⟩⟩) (by decide) (by decide) ?_
                      refine lv_aload_n hx hb dX4_control_180 rfl (lv_at hl 0 rfl) ?_
                      refine lv_iload_n hx hb dX4_control_181 rfl (lv_at hl 1 rfl) ?_
                      refine lv_bipush (v := 7) hx hb dX4_control_182 (by decide) ?_
                      refine lv_iand hx hb dX4_control_184 ?_
                      refine lv_aload_n hx hb dX4_control_185 rfl (lv_at hl 0 rfl) ?_
                      refine lv_iload_n hx hb dX4_control_186 rfl (lv_at hl 1 rfl) ?_
                      refine g_Vi hx hb hml hown hg (c_X4_operand l dC dI cI cZ x hi _ _) cs_X4_143 rfl rfl ⟨Nat.le_of_ble_eq_true rfl, Nat.le_of_ble_eq_true rfl⟩ hK hP hS (q0 := 8) rfl rfl rfl hl.1 rfl (Nat.le_of_ble_eq_true rfl) dX4_control_187 ⟨Nat.zero_le _, Nat.zero_le _⟩ (fun H locs hP hS => ?_)
                      refine lv_aload_n hx hb dX4_control_190 rfl (lv_at hl 0 rfl) ?_
                      refine ge_X4_df hx hb hg hown kf_X4_32 hK hP dX4_control_191 ?_
                      refine lv_iconst (v := 1) hx hb dX4_control_194 (by decide) ?_
                      refine lv_aload_n hx hb dX4_control_195 rfl (lv_at hl 0 rfl) ?_
                      refine ge_X4_df hx hb hg hown kf_X4_32 hK hP dX4_control_196 ?_
                      refine lv_isub hx hb dX4_control_199 ?_
                      refine g_Vv hx hb hml hown hg (c_X4_combine l dC dI cI cZ x hi _ _ _ _ _) cs_X4_146 rfl rfl ⟨Nat.le_of_ble_eq_true rfl, Nat.le_of_ble_eq_true rfl⟩ hK hP hS (q0 := 8) rfl rfl rfl hl.1 rfl (Nat.le_of_ble_eq_true rfl) dX4_control_200 ⟨Nat.zero_le _, Nat.zero_le _⟩ (fun H locs hP hS => ?_)
                      exact g_vret hx hb hr hlocks hP hS dX4_control_203 hF
def f_X4_calculate (u : BS) (p0 : Int32) : BS :=
  if p0 = 6 then
    let r1 : BS := f_X4_shiftRight u 0
    r1
  else
    if p0 = 14 then
      let r2 : BS := f_X4_shiftLeft u 0
      r2
    else
      let r3 : Int32 × BS := f_X4_operand u p0
      let r4 : BS := f_X4_combine r3.2 (p0 &&& 7) r3.1 0 0
      r4
set_option maxHeartbeats 4000000 in
set_option maxRecDepth 100000 in
theorem c_X4_calculate (l : Launch) (dC : Nat → ClassId) (dI : Nat → Nat → Nat) (cI cZ : ClassId) (x : Nat → Nat) (hi : g_inj 13 x) (u : BS) (p0 : Int32) : g_Mv l yX4_calculate (.code yX4_calculate cX4_calculate 2 none) { frames := 3, cells := 0, slots := 0, locals := 64 } (dC, dI) vwCl (tysW cI cZ) (wB x cI cZ) (g_bA 13 x) u [.ref (x 8), .int p0] (f_X4_calculate u p0) := by
  refine Met.ofW (cc := cX4_calculate) (maxL := 2) (ret := none) (by decide) rfl ?_
  intro p e s m args below meth c s₁ B hml hv
  obtain ⟨rfl, hP, hK⟩ := hv
  have hx := B.exec
  have hb := B.bytes
  have hr := B.returns
  have hts := atoms_spec (ws := .code yX4_calculate cX4_calculate 2 none :: gtbl) B.pre
  have hg : ∀ w ∈ gtbl, w.before _ s = true := fun w h => hts w (List.mem_cons_of_mem _ h)
  have hown : s.vm.findClass RX4 = some m.cls := findClass_of_methodNamed B.named
  have hlocks := B.notSynchronized
  have hS : va_S (g_bA 13 x) s.heap s.heap [] := va_S.rf
  have hl := lv_entry ([.ref (x 8), .int p0]) (n := 2) (Nat.le_of_ble_eq_true rfl)
  rw [lg_entry_eq]
  generalize (lg_sl ([.ref (x 8), .int p0]) ++ List.replicate (2 - (lg_sl ([.ref (x 8), .int p0])).length) Slot.unset).toArray = ls at hl ⊢
  have hl : lv_has ls 2 [(0, .ref (x 8)), (1, .int p0)] := hl
  obtain ⟨F, hF⟩ : ∃ F, f_X4_calculate u p0 = F := ⟨_, rfl⟩
  rw [hF]
  refine lv_iload_n hx hb dX4_calculate_0 rfl (lv_at hl 1 rfl) ?_
  refine lv_bipush (v := 6) hx hb dX4_calculate_1 (by decide) ?_
  refine lv_icmp_ne (tgt := 14) hx hb dX4_calculate_3 (by decide) (fun c1 => ?_) (fun c1 => ?_)
  · have hF := (if_neg c1).symm.trans hF
    refine lv_iload_n hx hb dX4_calculate_14 rfl (lv_at hl 1 rfl) ?_
    refine lv_bipush (v := 14) hx hb dX4_calculate_15 (by decide) ?_
    refine lv_icmp_ne (tgt := 28) hx hb dX4_calculate_17 (by decide) (fun c2 => ?_) (fun c2 => ?_)
    · have hF := (if_neg c2).symm.trans hF
      refine lv_aload_n hx hb dX4_calculate_28 rfl (lv_at hl 0 rfl) ?_
      refine lv_iload_n hx hb dX4_calculate_29 rfl (lv_at hl 1 rfl) ?_
      refine lv_bipush (v := 7) hx hb dX4_calculate_30 (by decide) ?_
      refine lv_iand hx hb dX4_calculate_32 ?_
      refine lv_aload_n hx hb dX4_calculate_33 rfl (lv_at hl 0 rfl) ?_
      refine lv_iload_n hx hb dX4_calculate_34 rfl (lv_at hl 1 rfl) ?_
      refine g_Vi hx hb hml hown hg (c_X4_operand l dC dI cI cZ x hi _ _) cs_X4_143 rfl rfl ⟨Nat.le_of_ble_eq_true rfl, Nat.le_of_ble_eq_true rfl⟩ hK hP hS (q0 := 8) rfl rfl rfl hl.1 rfl (Nat.le_of_ble_eq_true rfl) dX4_calculate_35 ⟨Nat.zero_le _, Nat.zero_le _⟩ (fun H locs hP hS => ?_)
      refine lv_iconst (v := 0) hx hb dX4_calculate_38 (by decide) ?_
      refine lv_iconst (v := 0) hx hb dX4_calculate_39 (by decide) ?_
      refine g_Vv hx hb hml hown hg (c_X4_combine l dC dI cI cZ x hi _ _ _ _ _) cs_X4_146 rfl rfl ⟨Nat.le_of_ble_eq_true rfl, Nat.le_of_ble_eq_true rfl⟩ hK hP hS (q0 := 8) rfl rfl rfl hl.1 rfl (Nat.le_of_ble_eq_true rfl) dX4_calculate_40 ⟨Nat.zero_le _, Nat.zero_le _⟩ (fun H locs hP hS => ?_)
      exact g_vret hx hb hr hlocks hP hS dX4_calculate_43 hF
    · have hF := (if_pos c2).symm.trans hF
      refine lv_aload_n hx hb dX4_calculate_20 rfl (lv_at hl 0 rfl) ?_
      refine lv_iconst (v := 0) hx hb dX4_calculate_21 (by decide) ?_
      refine g_Vv hx hb hml hown hg (c_X4_shiftLeft l dC dI cI cZ x hi _ _) cs_X4_140 rfl rfl ⟨Nat.le_of_ble_eq_true rfl, Nat.le_of_ble_eq_true rfl⟩ hK hP hS (q0 := 8) rfl rfl rfl hl.1 rfl (Nat.le_of_ble_eq_true rfl) dX4_calculate_22 ⟨Nat.zero_le _, Nat.zero_le _⟩ (fun H locs hP hS => ?_)
      refine lv_goto (tgt := 43) hx hb dX4_calculate_25 (by decide) ?_
      exact g_vret hx hb hr hlocks hP hS dX4_calculate_43 hF
  · have hF := (if_pos c1).symm.trans hF
    refine lv_aload_n hx hb dX4_calculate_6 rfl (lv_at hl 0 rfl) ?_
    refine lv_iconst (v := 0) hx hb dX4_calculate_7 (by decide) ?_
    refine g_Vv hx hb hml hown hg (c_X4_shiftRight l dC dI cI cZ x hi _ _) cs_X4_134 rfl rfl ⟨Nat.le_of_ble_eq_true rfl, Nat.le_of_ble_eq_true rfl⟩ hK hP hS (q0 := 8) rfl rfl rfl hl.1 rfl (Nat.le_of_ble_eq_true rfl) dX4_calculate_8 ⟨Nat.zero_le _, Nat.zero_le _⟩ (fun H locs hP hS => ?_)
    refine lv_goto (tgt := 43) hx hb dX4_calculate_11 (by decide) ?_
    exact g_vret hx hb hr hlocks hP hS dX4_calculate_43 hF
def f_X4_execute (u : BS) (p0 : Int32) (p1 : Int32) : BS :=
  if p0 = 0 then
    let r1 : BS := f_X4_loadOrIdle u p1
    r1
  else
    if p0 = 1 then
      let r2 : BS := f_X4_grow u p1 1
      r2
    else
      if p0 = 2 then
        let r3 : BS := f_X4_grow u p1 (-1)
        r3
      else
        if p0 = 3 then
          let r4 : BS := f_X4_branch u p1
          r4
        else
          if p0 = 4 then
            let r5 : Int32 × BS := f_X4_take u p1
            let u6 : BS := bs_d r5.2 r5.1
            u6
          else
            if p0 = 5 then
              let r7 : BS := f_X4_putAt u p1 (bq_d u)
              r7
            else
              if p0 = 6 then
                let r8 : BS := f_X4_transfer u p1
                r8
              else
                if p0 = 7 then
                  let r9 : BS := f_X4_control u p1
                  r9
                else
                  if p0 = 8 then
                    let u10 : BS := bs_d u ((f_X4_register u p1) &&& 255)
                    u10
                  else
                    if p0 = 9 then
                      let u11 : BS := bs_d u ((f_X4_register u p1) >>> ((8 : Int32) &&& 31))
                      u11
                    else
                      if p0 = 10 then
                        let r12 : BS := f_X4_putRegister u p1 (((f_X4_register u p1) &&& 65280) + (bq_d u))
                        r12
                      else
                        if p0 = 11 then
                          let r13 : BS := f_X4_putRegister u p1 (((f_X4_register u p1) &&& 255) + ((256 : Int32) * (bq_d u)))
                          r13
                        else
                          if p0 = 12 then
                            let r14 : BS := f_X4_goFar u p1
                            r14
                          else
                            if p0 = 13 then
                              let u15 : BS := bs_p u p1
                              u15
                            else
                              if p0 = 14 then
                                let u16 : BS := bs_x u p1
                                u16
                              else
                                let r17 : BS := f_X4_calculate u p1
                                r17
def ok_X4_execute (u : BS) (p0 : Int32) (p1 : Int32) : Prop :=
  if p0 = 0 then
    let r1 : BS := f_X4_loadOrIdle u p1
    True
  else
    if p0 = 1 then
      let r2 : BS := f_X4_grow u p1 1
      True
    else
      if p0 = 2 then
        let r3 : BS := f_X4_grow u p1 (-1)
        True
      else
        if p0 = 3 then
          let r4 : BS := f_X4_branch u p1
          True
        else
          if p0 = 4 then
            let r5 : Int32 × BS := f_X4_take u p1
            let u6 : BS := bs_d r5.2 r5.1
            True
          else
            if p0 = 5 then
              let r7 : BS := f_X4_putAt u p1 (bq_d u)
              True
            else
              if p0 = 6 then
                ok_X4_transfer u p1 ∧
                let r8 : BS := f_X4_transfer u p1
                True
              else
                if p0 = 7 then
                  let r9 : BS := f_X4_control u p1
                  True
                else
                  if p0 = 8 then
                    let u10 : BS := bs_d u ((f_X4_register u p1) &&& 255)
                    True
                  else
                    if p0 = 9 then
                      let u11 : BS := bs_d u ((f_X4_register u p1) >>> ((8 : Int32) &&& 31))
                      True
                    else
                      if p0 = 10 then
                        let r12 : BS := f_X4_putRegister u p1 (((f_X4_register u p1) &&& 65280) + (bq_d u))
                        True
                      else
                        if p0 = 11 then
                          let r13 : BS := f_X4_putRegister u p1 (((f_X4_register u p1) &&& 255) + ((256 : Int32) * (bq_d u)))
                          True
                        else
                          if p0 = 12 then
                            let r14 : BS := f_X4_goFar u p1
                            True
                          else
                            if p0 = 13 then
                              let u15 : BS := bs_p u p1
                              True
                            else
                              if p0 = 14 then
                                let u16 : BS := bs_x u p1
                                True
                              else
                                let r17 : BS := f_X4_calculate u p1
                                True
set_option maxHeartbeats 4000000 in
set_option maxRecDepth 100000 in
theorem c_X4_execute (l : Launch) (dC : Nat → ClassId) (dI : Nat → Nat → Nat) (cI cZ : ClassId) (x : Nat → Nat) (hi : g_inj 13 x) (u : BS) (p0 : Int32) (p1 : Int32) (hok : ok_X4_execute u p0 p1) : g_Mv l yX4_execute (.code yX4_execute cX4_execute 3 none) { frames := 4, cells := 0, slots := 0, locals := 86 } (dC, dI) vwCl (tysW cI cZ) (wB x cI cZ) (g_bA 13 x) u [.ref (x 8), .int p0, .int p1] (f_X4_execute u p0 p1) := by
  refine Met.ofW (cc := cX4_execute) (maxL := 3) (ret := none) (by decide) rfl ?_
  intro p e s m args below meth c s₁ B hml hv
  obtain ⟨rfl, hP, hK⟩ := hv
  have hx := B.exec
  have hb := B.bytes
  have hr := B.returns
  have hts := atoms_spec (ws := .code yX4_execute cX4_execute 3 none :: gtbl) B.pre
  have hg : ∀ w ∈ gtbl, w.before _ s = true := fun w h => hts w (List.mem_cons_of_mem _ h)
  have hown : s.vm.findClass RX4 = some m.cls := findClass_of_methodNamed B.named
  have hlocks := B.notSynchronized
  have hS : va_S (g_bA 13 x) s.heap s.heap [] := va_S.rf
  have hl := lv_entry ([.ref (x 8), .int p0, .int p1]) (n := 3) (Nat.le_of_ble_eq_true rfl)
  rw [lg_entry_eq]
  generalize (lg_sl ([.ref (x 8), .int p0, .int p1]) ++ List.replicate (3 - (lg_sl ([.ref (x 8), .int p0, .int p1])).length) Slot.unset).toArray = ls at hl ⊢
  have hl : lv_has ls 3 [(0, .ref (x 8)), (1, .int p0), (2, .int p1)] := hl
  obtain ⟨F, hF⟩ : ∃ F, f_X4_execute u p0 p1 = F := ⟨_, rfl⟩
  rw [hF]
  refine lv_iload_n hx hb dX4_execute_0 rfl (lv_at hl 1 rfl) ?_
  refine sw_case (v := 0) (fun c1 => ?_) (fun c1 => ?_)
  · have hF := (if_pos c1).symm.trans hF
    have hok := Eq.mp (if_pos c1) hok
    refine sw_in (off := 75) (tgt := 76) 0 hx hb dX4_execute_1 c1 (by decide) (by decide) ?_
    refine lv_aload_n hx hb dX4_execute_76 rfl (lv_at hl 0 rfl) ?_
    refine lv_iload_n hx hb dX4_execute_77 rfl (lv_at hl 2 rfl) ?_
    refine g_Vv hx hb hml hown hg (c_X4_loadOrIdle l dC dI cI cZ x hi _ _) cs_X4_77 rfl rfl ⟨Nat.le_of_ble_eq_true rfl, Nat.le_of_ble_eq_true rfl⟩ hK hP hS (q0 := 8) rfl rfl rfl hl.1 rfl (Nat.le_of_ble_eq_true rfl) dX4_execute_78 ⟨Nat.zero_le _, Nat.zero_le _⟩ (fun H locs hP hS => ?_)
    refine lv_goto (tgt := 257) hx hb dX4_execute_81 (by decide) ?_
    exact g_vret hx hb hr hlocks hP hS dX4_execute_257 hF
  · have hF := (if_neg c1).symm.trans hF
    have hok := Eq.mp (if_neg c1) hok
    refine sw_case (v := 1) (fun c2 => ?_) (fun c2 => ?_)
    · have hF := (if_pos c2).symm.trans hF
      have hok := Eq.mp (if_pos c2) hok
      refine sw_in (off := 83) (tgt := 84) 1 hx hb dX4_execute_1 c2 (by decide) (by decide) ?_
      refine lv_aload_n hx hb dX4_execute_84 rfl (lv_at hl 0 rfl) ?_
      refine lv_iload_n hx hb dX4_execute_85 rfl (lv_at hl 2 rfl) ?_
      refine lv_iconst (v := 1) hx hb dX4_execute_86 (by decide) ?_
      refine g_Vv hx hb hml hown hg (c_X4_grow l dC dI cI cZ x hi _ _ _) cs_X4_81 rfl rfl ⟨Nat.le_of_ble_eq_true rfl, Nat.le_of_ble_eq_true rfl⟩ hK hP hS (q0 := 8) rfl rfl rfl hl.1 rfl (Nat.le_of_ble_eq_true rfl) dX4_execute_87 ⟨Nat.zero_le _, Nat.zero_le _⟩ (fun H locs hP hS => ?_)
      refine lv_goto (tgt := 257) hx hb dX4_execute_90 (by decide) ?_
      exact g_vret hx hb hr hlocks hP hS dX4_execute_257 hF
    · have hF := (if_neg c2).symm.trans hF
      have hok := Eq.mp (if_neg c2) hok
      refine sw_case (v := 2) (fun c3 => ?_) (fun c3 => ?_)
      · have hF := (if_pos c3).symm.trans hF
        have hok := Eq.mp (if_pos c3) hok
        refine sw_in (off := 92) (tgt := 93) 2 hx hb dX4_execute_1 c3 (by decide) (by decide) ?_
        refine lv_aload_n hx hb dX4_execute_93 rfl (lv_at hl 0 rfl) ?_
        refine lv_iload_n hx hb dX4_execute_94 rfl (lv_at hl 2 rfl) ?_
        refine lv_iconst (v := (-1)) hx hb dX4_execute_95 (by decide) ?_
        refine g_Vv hx hb hml hown hg (c_X4_grow l dC dI cI cZ x hi _ _ _) cs_X4_81 rfl rfl ⟨Nat.le_of_ble_eq_true rfl, Nat.le_of_ble_eq_true rfl⟩ hK hP hS (q0 := 8) rfl rfl rfl hl.1 rfl (Nat.le_of_ble_eq_true rfl) dX4_execute_96 ⟨Nat.zero_le _, Nat.zero_le _⟩ (fun H locs hP hS => ?_)
        refine lv_goto (tgt := 257) hx hb dX4_execute_99 (by decide) ?_
        exact g_vret hx hb hr hlocks hP hS dX4_execute_257 hF
      · have hF := (if_neg c3).symm.trans hF
        have hok := Eq.mp (if_neg c3) hok
        refine sw_case (v := 3) (fun c4 => ?_) (fun c4 => ?_)
        · have hF := (if_pos c4).symm.trans hF
          have hok := Eq.mp (if_pos c4) hok
          refine sw_in (off := 101) (tgt := 102) 3 hx hb dX4_execute_1 c4 (by decide) (by decide) ?_
          refine lv_aload_n hx hb dX4_execute_102 rfl (lv_at hl 0 rfl) ?_
          refine lv_iload_n hx hb dX4_execute_103 rfl (lv_at hl 2 rfl) ?_
          refine g_Vv hx hb hml hown hg (c_X4_branch l dC dI cI cZ x hi _ _) cs_X4_84 rfl rfl ⟨Nat.le_of_ble_eq_true rfl, Nat.le_of_ble_eq_true rfl⟩ hK hP hS (q0 := 8) rfl rfl rfl hl.1 rfl (Nat.le_of_ble_eq_true rfl) dX4_execute_104 ⟨Nat.zero_le _, Nat.zero_le _⟩ (fun H locs hP hS => ?_)
          refine lv_goto (tgt := 257) hx hb dX4_execute_107 (by decide) ?_
          exact g_vret hx hb hr hlocks hP hS dX4_execute_257 hF
        · have hF := (if_neg c4).symm.trans hF
          have hok := Eq.mp (if_neg c4) hok
          refine sw_case (v := 4) (fun c5 => ?_) (fun c5 => ?_)
          · have hF := (if_pos c5).symm.trans hF
            have hok := Eq.mp (if_pos c5) hok
            refine sw_in (off := 109) (tgt := 110) 4 hx hb dX4_execute_1 c5 (by decide) (by decide) ?_
            refine lv_aload_n hx hb dX4_execute_110 rfl (lv_at hl 0 rfl) ?_
            refine lv_aload_n hx hb dX4_execute_111 rfl (lv_at hl 0 rfl) ?_
            refine lv_iload_n hx hb dX4_execute_112 rfl (lv_at hl 2 rfl) ?_
            refine g_Vi hx hb hml hown hg (c_X4_take l dC dI cI cZ x hi _ _) cs_X4_63 rfl rfl ⟨Nat.le_of_ble_eq_true rfl, Nat.le_of_ble_eq_true rfl⟩ hK hP hS (q0 := 8) rfl rfl rfl hl.1 rfl (Nat.le_of_ble_eq_true rfl) dX4_execute_113 ⟨Nat.zero_le _, Nat.zero_le _⟩ (fun H locs hP hS => ?_)
            refine pu_X4_d hi hx hb hg hown kf_X4_29 hK hP hS dX4_execute_116 (fun H locs hP hS => ?_)
            refine lv_goto (tgt := 257) hx hb dX4_execute_119 (by decide) ?_
            exact g_vret hx hb hr hlocks hP hS dX4_execute_257 hF
          · have hF := (if_neg c5).symm.trans hF
            have hok := Eq.mp (if_neg c5) hok
            refine sw_case (v := 5) (fun c6 => ?_) (fun c6 => ?_)
            · have hF := (if_pos c6).symm.trans hF
              have hok := Eq.mp (if_pos c6) hok
              refine sw_in (off := 121) (tgt := 122) 5 hx hb dX4_execute_1 c6 (by decide) (by decide) ?_
              refine lv_aload_n hx hb dX4_execute_122 rfl (lv_at hl 0 rfl) ?_
              refine lv_iload_n hx hb dX4_execute_123 rfl (lv_at hl 2 rfl) ?_
              refine lv_aload_n hx hb dX4_execute_124 rfl (lv_at hl 0 rfl) ?_
              refine ge_X4_d hx hb hg hown kf_X4_29 hK hP dX4_execute_125 ?_
              refine g_Vv hx hb hml hown hg (c_X4_putAt l dC dI cI cZ x hi _ _ _) cs_X4_87 rfl rfl ⟨Nat.le_of_ble_eq_true rfl, Nat.le_of_ble_eq_true rfl⟩ hK hP hS (q0 := 8) rfl rfl rfl hl.1 rfl (Nat.le_of_ble_eq_true rfl) dX4_execute_128 ⟨Nat.zero_le _, Nat.zero_le _⟩ (fun H locs hP hS => ?_)
              refine lv_goto (tgt := 257) hx hb dX4_execute_131 (by decide) ?_
              exact g_vret hx hb hr hlocks hP hS dX4_execute_257 hF
            · have hF := (if_neg c6).symm.trans hF
              have hok := Eq.mp (if_neg c6) hok
              refine sw_case (v := 6) (fun c7 => ?_) (fun c7 => ?_)
              · have hF := (if_pos c7).symm.trans hF
                have hok := Eq.mp (if_pos c7) hok
                refine sw_in (off := 133) (tgt := 134) 6 hx hb dX4_execute_1 c7 (by decide) (by decide) ?_
                refine lv_aload_n hx hb dX4_execute_134 rfl (lv_at hl 0 rfl) ?_
                refine lv_iload_n hx hb dX4_execute_135 rfl (lv_at hl 2 rfl) ?_
                obtain ⟨c8, hok⟩ := hok
                refine g_Vv hx hb hml hown hg (c_X4_transfer l dC dI cI cZ x hi _ _ c8) cs_X4_90 rfl rfl ⟨Nat.le_of_ble_eq_true rfl, Nat.le_of_ble_eq_true rfl⟩ hK hP hS (q0 := 8) rfl rfl rfl hl.1 rfl (Nat.le_of_ble_eq_true rfl) dX4_execute_136 ⟨Nat.zero_le _, Nat.zero_le _⟩ (fun H locs hP hS => ?_)
                refine lv_goto (tgt := 257) hx hb dX4_execute_139 (by decide) ?_
                exact g_vret hx hb hr hlocks hP hS dX4_execute_257 hF
              · have hF := (if_neg c7).symm.trans hF
                have hok := Eq.mp (if_neg c7) hok
                refine sw_case (v := 7) (fun c9 => ?_) (fun c9 => ?_)
                · have hF := (if_pos c9).symm.trans hF
                  have hok := Eq.mp (if_pos c9) hok
                  refine sw_in (off := 141) (tgt := 142) 7 hx hb dX4_execute_1 c9 (by decide) (by decide) ?_
                  refine lv_aload_n hx hb dX4_execute_142 rfl (lv_at hl 0 rfl) ?_
                  refine lv_iload_n hx hb dX4_execute_143 rfl (lv_at hl 2 rfl) ?_
                  refine g_Vv hx hb hml hown hg (c_X4_control l dC dI cI cZ x hi _ _) cs_X4_93 rfl rfl ⟨Nat.le_of_ble_eq_true rfl, Nat.le_of_ble_eq_true rfl⟩ hK hP hS (q0 := 8) rfl rfl rfl hl.1 rfl (Nat.le_of_ble_eq_true rfl) dX4_execute_144 ⟨Nat.zero_le _, Nat.zero_le _⟩ (fun H locs hP hS => ?_)
                  refine lv_goto (tgt := 257) hx hb dX4_execute_147 (by decide) ?_
                  exact g_vret hx hb hr hlocks hP hS dX4_execute_257 hF
                · have hF := (if_neg c9).symm.trans hF
                  have hok := Eq.mp (if_neg c9) hok
                  refine sw_case (v := 8) (fun c10 => ?_) (fun c10 => ?_)
                  · have hF := (if_pos c10).symm.trans hF
                    have hok := Eq.mp (if_pos c10) hok
                    refine sw_in (off := 149) (tgt := 150) 8 hx hb dX4_execute_1 c10 (by decide) (by decide) ?_
                    refine lv_aload_n hx hb dX4_execute_150 rfl (lv_at hl 0 rfl) ?_
                    refine lv_aload_n hx hb dX4_execute_151 rfl (lv_at hl 0 rfl) ?_
                    refine lv_iload_n hx hb dX4_execute_152 rfl (lv_at hl 2 rfl) ?_
                    refine g_Vi hx hb hml hown hg (c_X4_register l dC dI cI cZ x hi _ _) cs_X4_51 rfl rfl ⟨Nat.le_of_ble_eq_true rfl, Nat.le_of_ble_eq_true rfl⟩ hK hP hS (q0 := 8) rfl rfl rfl hl.1 rfl (Nat.le_of_ble_eq_true rfl) dX4_execute_153 ⟨Nat.zero_le _, Nat.zero_le _⟩ (fun H locs hP hS => ?_)
                    refine lv_sipush (v := 255) hx hb dX4_execute_156 (by decide) ?_
                    refine lv_iand hx hb dX4_execute_159 ?_
                    refine pu_X4_d hi hx hb hg hown kf_X4_29 hK hP hS dX4_execute_160 (fun H locs hP hS => ?_)
                    refine lv_goto (tgt := 257) hx hb dX4_execute_163 (by decide) ?_
                    exact g_vret hx hb hr hlocks hP hS dX4_execute_257 hF
                  · have hF := (if_neg c10).symm.trans hF
                    have hok := Eq.mp (if_neg c10) hok
                    refine sw_case (v := 9) (fun c11 => ?_) (fun c11 => ?_)
                    · have hF := (if_pos c11).symm.trans hF
                      have hok := Eq.mp (if_pos c11) hok
                      refine sw_in (off := 165) (tgt := 166) 9 hx hb dX4_execute_1 c11 (by decide) (by decide) ?_
                      refine lv_aload_n hx hb dX4_execute_166 rfl (lv_at hl 0 rfl) ?_
                      refine lv_aload_n hx hb dX4_execute_167 rfl (lv_at hl 0 rfl) ?_
                      refine lv_iload_n hx hb dX4_execute_168 rfl (lv_at hl 2 rfl) ?_
                      refine g_Vi hx hb hml hown hg (c_X4_register l dC dI cI cZ x hi _ _) cs_X4_51 rfl rfl ⟨Nat.le_of_ble_eq_true rfl, Nat.le_of_ble_eq_true rfl⟩ hK hP hS (q0 := 8) rfl rfl rfl hl.1 rfl (Nat.le_of_ble_eq_true rfl) dX4_execute_169 ⟨Nat.zero_le _, Nat.zero_le _⟩ (fun H locs hP hS => ?_)
                      refine lv_bipush (v := 8) hx hb dX4_execute_172 (by decide) ?_
                      refine lv_ishr hx hb dX4_execute_174 ?_
                      refine pu_X4_d hi hx hb hg hown kf_X4_29 hK hP hS dX4_execute_175 (fun H locs hP hS => ?_)
                      refine lv_goto (tgt := 257) hx hb dX4_execute_178 (by decide) ?_
                      exact g_vret hx hb hr hlocks hP hS dX4_execute_257 hF
                    · have hF := (if_neg c11).symm.trans hF
                      have hok := Eq.mp (if_neg c11) hok
                      refine sw_case (v := 10) (fun c12 => ?_) (fun c12 => ?_)
                      · have hF := (if_pos c12).symm.trans hF
                        have hok := Eq.mp (if_pos c12) hok
                        refine sw_in (off := 180) (tgt := 181) 10 hx hb dX4_execute_1 c12 (by decide) (by decide) ?_
                        refine lv_aload_n hx hb dX4_execute_181 rfl (lv_at hl 0 rfl) ?_
                        refine lv_iload_n hx hb dX4_execute_182 rfl (lv_at hl 2 rfl) ?_
                        refine lv_aload_n hx hb dX4_execute_183 rfl (lv_at hl 0 rfl) ?_
                        refine lv_iload_n hx hb dX4_execute_184 rfl (lv_at hl 2 rfl) ?_
                        refine g_Vi hx hb hml hown hg (c_X4_register l dC dI cI cZ x hi _ _) cs_X4_51 rfl rfl ⟨Nat.le_of_ble_eq_true rfl, Nat.le_of_ble_eq_true rfl⟩ hK hP hS (q0 := 8) rfl rfl rfl hl.1 rfl (Nat.le_of_ble_eq_true rfl) dX4_execute_185 ⟨Nat.zero_le _, Nat.zero_le _⟩ (fun H locs hP hS => ?_)
                        refine lv_ldc (v := 65280) hx hb hown (hg _ kd_X4_96) dX4_execute_188 ?_
                        refine lv_iand hx hb dX4_execute_190 ?_
                        refine lv_aload_n hx hb dX4_execute_191 rfl (lv_at hl 0 rfl) ?_
                        refine ge_X4_d hx hb hg hown kf_X4_29 hK hP dX4_execute_192 ?_
                        refine lv_iadd hx hb dX4_execute_195 ?_
                        refine g_Vv hx hb hml hown hg (c_X4_putRegister l dC dI cI cZ x hi _ _ _) cs_X4_56 rfl rfl ⟨Nat.le_of_ble_eq_true rfl, Nat.le_of_ble_eq_true rfl⟩ hK hP hS (q0 := 8) rfl rfl rfl hl.1 rfl (Nat.le_of_ble_eq_true rfl) dX4_execute_196 ⟨Nat.zero_le _, Nat.zero_le _⟩ (fun H locs hP hS => ?_)
                        refine lv_goto (tgt := 257) hx hb dX4_execute_199 (by decide) ?_
                        exact g_vret hx hb hr hlocks hP hS dX4_execute_257 hF
                      · have hF := (if_neg c12).symm.trans hF
                        have hok := Eq.mp (if_neg c12) hok
                        refine sw_case (v := 11) (fun c13 => ?_) (fun c13 => ?_)
                        · have hF := (if_pos c13).symm.trans hF
                          have hok := Eq.mp (if_pos c13) hok
                          refine sw_in (off := 201) (tgt := 202) 11 hx hb dX4_execute_1 c13 (by decide) (by decide) ?_
                          refine lv_aload_n hx hb dX4_execute_202 rfl (lv_at hl 0 rfl) ?_
                          refine lv_iload_n hx hb dX4_execute_203 rfl (lv_at hl 2 rfl) ?_
                          refine lv_aload_n hx hb dX4_execute_204 rfl (lv_at hl 0 rfl) ?_
                          refine lv_iload_n hx hb dX4_execute_205 rfl (lv_at hl 2 rfl) ?_
                          refine g_Vi hx hb hml hown hg (c_X4_register l dC dI cI cZ x hi _ _) cs_X4_51 rfl rfl ⟨Nat.le_of_ble_eq_true rfl, Nat.le_of_ble_eq_true rfl⟩ hK hP hS (q0 := 8) rfl rfl rfl hl.1 rfl (Nat.le_of_ble_eq_true rfl) dX4_execute_206 ⟨Nat.zero_le _, Nat.zero_le _⟩ (fun H locs hP hS => ?_)
                          refine lv_sipush (v := 255) hx hb dX4_execute_209 (by decide) ?_
                          refine lv_iand hx hb dX4_execute_212 ?_
                          refine lv_sipush (v := 256) hx hb dX4_execute_213 (by decide) ?_
                          refine lv_aload_n hx hb dX4_execute_216 rfl (lv_at hl 0 rfl) ?_
                          refine ge_X4_d hx hb hg hown kf_X4_29 hK hP dX4_execute_217 ?_
                          refine lv_imul hx hb dX4_execute_220 ?_
                          refine lv_iadd hx hb dX4_execute_221 ?_
                          refine g_Vv hx hb hml hown hg (c_X4_putRegister l dC dI cI cZ x hi _ _ _) cs_X4_56 rfl rfl ⟨Nat.le_of_ble_eq_true rfl, Nat.le_of_ble_eq_true rfl⟩ hK hP hS (q0 := 8) rfl rfl rfl hl.1 rfl (Nat.le_of_ble_eq_true rfl) dX4_execute_222 ⟨Nat.zero_le _, Nat.zero_le _⟩ (fun H locs hP hS => ?_)
                          refine lv_goto (tgt := 257) hx hb dX4_execute_225 (by decide) ?_
                          exact g_vret hx hb hr hlocks hP hS dX4_execute_257 hF
                        · have hF := (if_neg c13).symm.trans hF
                          have hok := Eq.mp (if_neg c13) hok
                          refine sw_case (v := 12) (fun c14 => ?_) (fun c14 => ?_)
                          · have hF := (if_pos c14).symm.trans hF
                            have hok := Eq.mp (if_pos c14) hok
                            refine sw_in (off := 227) (tgt := 228) 12 hx hb dX4_execute_1 c14 (by decide) (by decide) ?_
                            refine lv_aload_n hx hb dX4_execute_228 rfl (lv_at hl 0 rfl) ?_
                            refine lv_iload_n hx hb dX4_execute_229 rfl (lv_at hl 2 rfl) ?_
                            refine g_Vv hx hb hml hown hg (c_X4_goFar l dC dI cI cZ x hi _ _) cs_X4_97 rfl rfl ⟨Nat.le_of_ble_eq_true rfl, Nat.le_of_ble_eq_true rfl⟩ hK hP hS (q0 := 8) rfl rfl rfl hl.1 rfl (Nat.le_of_ble_eq_true rfl) dX4_execute_230 ⟨Nat.zero_le _, Nat.zero_le _⟩ (fun H locs hP hS => ?_)
                            refine lv_goto (tgt := 257) hx hb dX4_execute_233 (by decide) ?_
                            exact g_vret hx hb hr hlocks hP hS dX4_execute_257 hF
                          · have hF := (if_neg c14).symm.trans hF
                            have hok := Eq.mp (if_neg c14) hok
                            refine sw_case (v := 13) (fun c15 => ?_) (fun c15 => ?_)
                            · have hF := (if_pos c15).symm.trans hF
                              have hok := Eq.mp (if_pos c15) hok
                              refine sw_in (off := 235) (tgt := 236) 13 hx hb dX4_execute_1 c15 (by decide) (by decide) ?_
                              refine lv_aload_n hx hb dX4_execute_236 rfl (lv_at hl 0 rfl) ?_
                              refine lv_iload_n hx hb dX4_execute_237 rfl (lv_at hl 2 rfl) ?_
                              refine pu_X4_p hi hx hb hg hown kf_X4_35 hK hP hS dX4_execute_238 (fun H locs hP hS => ?_)
                              refine lv_goto (tgt := 257) hx hb dX4_execute_241 (by decide) ?_
                              exact g_vret hx hb hr hlocks hP hS dX4_execute_257 hF
                            · have hF := (if_neg c15).symm.trans hF
                              have hok := Eq.mp (if_neg c15) hok
                              refine sw_case (v := 14) (fun c16 => ?_) (fun c16 => ?_)
                              · have hF := (if_pos c16).symm.trans hF
                                have hok := Eq.mp (if_pos c16) hok
                                refine sw_in (off := 243) (tgt := 244) 14 hx hb dX4_execute_1 c16 (by decide) (by decide) ?_
                                refine lv_aload_n hx hb dX4_execute_244 rfl (lv_at hl 0 rfl) ?_
                                refine lv_iload_n hx hb dX4_execute_245 rfl (lv_at hl 2 rfl) ?_
                                refine pu_X4_x hi hx hb hg hown kf_X4_38 hK hP hS dX4_execute_246 (fun H locs hP hS => ?_)
                                refine lv_goto (tgt := 257) hx hb dX4_execute_249 (by decide) ?_
                                exact g_vret hx hb hr hlocks hP hS dX4_execute_257 hF
                              · have hF := (if_neg c16).symm.trans hF
                                have hok := Eq.mp (if_neg c16) hok
                                refine sw_def (tgt := 252) [0, 1, 2, 3, 4, 5, 6, 7, 8, 9, 10, 11, 12, 13, 14] hx hb dX4_execute_1 (List.forall_mem_cons.mpr ⟨c1, List.forall_mem_cons.mpr ⟨c2, List.forall_mem_cons.mpr ⟨c3, List.forall_mem_cons.mpr ⟨c4, List.forall_mem_cons.mpr ⟨c5, List.forall_mem_cons.mpr ⟨c6, List.forall_mem_cons.mpr ⟨c7, List.forall_mem_cons.mpr ⟨c9, List.forall_mem_cons.mpr ⟨c10, List.forall_mem_cons.mpr ⟨c11, List.forall_mem_cons.mpr ⟨c12, List.forall_mem_cons.mpr ⟨c13, List.forall_mem_cons.mpr ⟨c14, List.forall_mem_cons.mpr ⟨c15, List.forall_mem_cons.mpr ⟨c16, fun _ h => absurd h List.not_mem_nil⟩⟩⟩⟩⟩⟩⟩⟩⟩⟩⟩⟩⟩⟩⟩) (by decide) (by decide) ?_
                                refine lv_aload_n hx hb dX4_execute_252 rfl (lv_at hl 0 rfl) ?_
                                refine lv_iload_n hx hb dX4_execute_253 rfl (lv_at hl 2 rfl) ?_
                                refine g_Vv hx hb hml hown hg (c_X4_calculate l dC dI cI cZ x hi _ _) cs_X4_100 rfl rfl ⟨Nat.le_of_ble_eq_true rfl, Nat.le_of_ble_eq_true rfl⟩ hK hP hS (q0 := 8) rfl rfl rfl hl.1 rfl (Nat.le_of_ble_eq_true rfl) dX4_execute_254 ⟨Nat.zero_le _, Nat.zero_le _⟩ (fun H locs hP hS => ?_)
                                exact g_vret hx hb hr hlocks hP hS dX4_execute_257 hF
def f_X4_act (u : BS) : Int32 × BS :=
  if (bq_idle u) = 0 then
    let r1 : Int32 × BS := f_X4_take u (bq_p u)
    let t2 : Int32 := r1.1
    let r3 : BS := f_X4_execute r1.2 (t2 >>> ((4 : Int32) &&& 31)) (t2 &&& 15)
    if (t2 >>> ((4 : Int32) &&& 31)) = 12 then
      (3, r3)
    else
      (2, r3)
  else
    (1, u)
def ok_X4_act (u : BS) : Prop :=
  if (bq_idle u) = 0 then
    let r1 : Int32 × BS := f_X4_take u (bq_p u)
    let t2 : Int32 := r1.1
    ok_X4_execute r1.2 (t2 >>> ((4 : Int32) &&& 31)) (t2 &&& 15) ∧
    let r3 : BS := f_X4_execute r1.2 (t2 >>> ((4 : Int32) &&& 31)) (t2 &&& 15)
    if (t2 >>> ((4 : Int32) &&& 31)) = 12 then
      True
    else
      True
  else
    True
set_option maxHeartbeats 4000000 in
set_option maxRecDepth 100000 in
theorem c_X4_act (l : Launch) (dC : Nat → ClassId) (dI : Nat → Nat → Nat) (cI cZ : ClassId) (x : Nat → Nat) (hi : g_inj 13 x) (u : BS) (hok : ok_X4_act u) : g_Mi l yX4_act (.code yX4_act cX4_act 2 (some .int)) { frames := 5, cells := 0, slots := 0, locals := 108 } (dC, dI) vwCl (tysW cI cZ) (wB x cI cZ) (g_bA 13 x) u [.ref (x 8)] (f_X4_act u).1 (f_X4_act u).2 := by
  refine Met.ofW (cc := cX4_act) (maxL := 2) (ret := (some .int)) (by decide) rfl ?_
  intro p e s m args below meth c s₁ B hml hv
  obtain ⟨rfl, hP, hK⟩ := hv
  have hx := B.exec
  have hb := B.bytes
  have hr := B.returns
  have hts := atoms_spec (ws := .code yX4_act cX4_act 2 (some .int) :: gtbl) B.pre
  have hg : ∀ w ∈ gtbl, w.before _ s = true := fun w h => hts w (List.mem_cons_of_mem _ h)
  have hown : s.vm.findClass RX4 = some m.cls := findClass_of_methodNamed B.named
  have hlocks := B.notSynchronized
  have hS : va_S (g_bA 13 x) s.heap s.heap [] := va_S.rf
  have hl := lv_entry ([.ref (x 8)]) (n := 2) (Nat.le_of_ble_eq_true rfl)
  rw [lg_entry_eq]
  generalize (lg_sl ([.ref (x 8)]) ++ List.replicate (2 - (lg_sl ([.ref (x 8)])).length) Slot.unset).toArray = ls at hl ⊢
  have hl : lv_has ls 2 [(0, .ref (x 8))] := hl
  obtain ⟨F, hF⟩ : ∃ F, f_X4_act u = F := ⟨_, rfl⟩
  rw [hF]
  refine lv_aload_n hx hb dX4_act_0 rfl (lv_at hl 0 rfl) ?_
  refine ge_X4_idle hx hb hg hown kf_X4_47 hK hP dX4_act_1 ?_
  refine lv_if_eq (tgt := 9) hx hb dX4_act_4 (by decide) (fun c1 => ?_) (fun c1 => ?_)
  · have hF := (if_pos c1).symm.trans hF
    have hok := Eq.mp (if_pos c1) hok
    refine lv_aload_n hx hb dX4_act_9 rfl (lv_at hl 0 rfl) ?_
    refine lv_aload_n hx hb dX4_act_10 rfl (lv_at hl 0 rfl) ?_
    refine ge_X4_p hx hb hg hown kf_X4_35 hK hP dX4_act_11 ?_
    refine g_Vi hx hb hml hown hg (c_X4_take l dC dI cI cZ x hi _ _) cs_X4_63 rfl rfl ⟨Nat.le_of_ble_eq_true rfl, Nat.le_of_ble_eq_true rfl⟩ hK hP hS (q0 := 8) rfl rfl rfl hl.1 rfl (Nat.le_of_ble_eq_true rfl) dX4_act_14 ⟨Nat.zero_le _, Nat.zero_le _⟩ (fun H locs hP hS => ?_)
    refine lv_istore_n hx hb dX4_act_17 rfl hl (by decide) rfl (fun ls hl => ?_)
    have hl : lv_has ls 2 [(1, _), (0, _)] := hl
    refine lv_aload_n hx hb dX4_act_18 rfl (lv_at hl 1 rfl) ?_
    refine lv_iload_n hx hb dX4_act_19 rfl (lv_at hl 0 rfl) ?_
    refine lv_iconst (v := 4) hx hb dX4_act_20 (by decide) ?_
    refine lv_ishr hx hb dX4_act_21 ?_
    refine lv_iload_n hx hb dX4_act_22 rfl (lv_at hl 0 rfl) ?_
    refine lv_bipush (v := 15) hx hb dX4_act_23 (by decide) ?_
    refine lv_iand hx hb dX4_act_25 ?_
    obtain ⟨c2, hok⟩ := hok
    refine g_Vv hx hb hml hown hg (c_X4_execute l dC dI cI cZ x hi _ _ _ c2) cs_X4_66 rfl rfl ⟨Nat.le_of_ble_eq_true rfl, Nat.le_of_ble_eq_true rfl⟩ hK hP hS (q0 := 8) rfl rfl rfl hl.1 rfl (Nat.le_of_ble_eq_true rfl) dX4_act_26 ⟨Nat.zero_le _, Nat.zero_le _⟩ (fun H locs hP hS => ?_)
    refine lv_iload_n hx hb dX4_act_29 rfl (lv_at hl 0 rfl) ?_
    refine lv_iconst (v := 4) hx hb dX4_act_30 (by decide) ?_
    refine lv_ishr hx hb dX4_act_31 ?_
    refine lv_bipush (v := 12) hx hb dX4_act_32 (by decide) ?_
    refine lv_icmp_ne (tgt := 41) hx hb dX4_act_34 (by decide) (fun c3 => ?_) (fun c3 => ?_)
    · have hF := (if_neg c3).symm.trans hF
      have hok := Eq.mp (if_neg c3) hok
      refine lv_iconst (v := 2) hx hb dX4_act_41 (by decide) ?_
      have hF : (_, _) = F := hF
      exact g_iret hx hb hr hlocks hP hS dX4_act_42 (g_p1 hF) (g_p2 hF)
    · have hF := (if_pos c3).symm.trans hF
      have hok := Eq.mp (if_pos c3) hok
      refine lv_iconst (v := 3) hx hb dX4_act_37 (by decide) ?_
      refine lv_goto (tgt := 42) hx hb dX4_act_38 (by decide) ?_
      have hF : (_, _) = F := hF
      exact g_iret hx hb hr hlocks hP hS dX4_act_42 (g_p1 hF) (g_p2 hF)
  · have hF := (if_neg c1).symm.trans hF
    have hok := Eq.mp (if_neg c1) hok
    refine lv_iconst (v := 1) hx hb dX4_act_7 (by decide) ?_
    have hF : (_, _) = F := hF
    exact g_iret hx hb hr hlocks hP hS dX4_act_8 (g_p1 hF) (g_p2 hF)
