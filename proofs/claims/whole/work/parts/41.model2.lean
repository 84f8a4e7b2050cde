def f_X7_seven (u : MS) (p0 : Int32) : MS :=
  if p0 = 0 then
    let r1 : MS := f_X7_comeBack u ((1 : Int32) - p0)
    r1
  else
    if p0 = 1 then
      let r2 : MS := f_X7_comeBack u ((1 : Int32) - p0)
      r2
    else
      if p0 = 2 then
        let u3 : MS := ms_s u (upd (mq_s u) 16 (f_X7_m u (mq_s u 19)))
        let r4 : MS := f_X7_grow u3 (mq_s u3 19) 1
        r4
      else
        if p0 = 3 then
          let r5 : MS := f_X7_store u (mq_s u ((mq_s u 19)).toNatClampNeg) (mq_s u 16)
          let r6 : MS := f_X7_grow r5 (mq_s r5 19) (-1)
          r6
        else
          if p0 = 6 then
            let r7 : MS := f_X7_right u (mq_s u 17)
            r7
          else
            if p0 = 8 then
              let r8 : MS := f_X7_store u (mq_s u ((mq_s u 19)).toNatClampNeg) (mq_s u 20)
              r8
            else
              if p0 = 9 then
                let r9 : MS := f_X7_mark u
                r9
              else
                if p0 = 10 then
                  let u10 : MS := ms_s u (upd (mq_s u) 22 (p0 - 10))
                  u10
                else
                  if p0 = 11 then
                    let u11 : MS := ms_s u (upd (mq_s u) 22 (p0 - 10))
                    u11
                  else
                    if p0 = 14 then
                      let r12 : MS := f_X7_left u (mq_s u 17)
                      r12
                    else
                      if 8 ≤ p0 then
                        let r13 : Int32 × MS := f_X7_next u
                        let r14 : MS := f_X7_carries r13.2 (p0 &&& 7) r13.1
                        r14
                      else
                        let r15 : MS := f_X7_carries u (p0 &&& 7) (f_X7_m u (mq_s u 19))
                        r15
def ok_X7_seven (u : MS) (p0 : Int32) : Prop :=
  if p0 = 0 then
    ok_X7_comeBack u ((1 : Int32) - p0) ∧
    let r1 : MS := f_X7_comeBack u ((1 : Int32) - p0)
    True
  else
    if p0 = 1 then
      ok_X7_comeBack u ((1 : Int32) - p0) ∧
      let r2 : MS := f_X7_comeBack u ((1 : Int32) - p0)
      True
    else
      if p0 = 2 then
        ok_X7_m u (mq_s u 19) ∧
        let u3 : MS := ms_s u (upd (mq_s u) 16 (f_X7_m u (mq_s u 19)))
        ok_X7_grow u3 (mq_s u3 19) 1 ∧
        let r4 : MS := f_X7_grow u3 (mq_s u3 19) 1
        True
      else
        if p0 = 3 then
          vp_in (mq_s u 19) 24 ∧
          let r5 : MS := f_X7_store u (mq_s u ((mq_s u 19)).toNatClampNeg) (mq_s u 16)
          ok_X7_grow r5 (mq_s r5 19) (-1) ∧
          let r6 : MS := f_X7_grow r5 (mq_s r5 19) (-1)
          True
        else
          if p0 = 6 then
            let r7 : MS := f_X7_right u (mq_s u 17)
            True
          else
            if p0 = 8 then
              vp_in (mq_s u 19) 24 ∧
              let r8 : MS := f_X7_store u (mq_s u ((mq_s u 19)).toNatClampNeg) (mq_s u 20)
              True
            else
              if p0 = 9 then
                ok_X7_mark u ∧
                let r9 : MS := f_X7_mark u
                True
              else
                if p0 = 10 then
                  let u10 : MS := ms_s u (upd (mq_s u) 22 (p0 - 10))
                  True
                else
                  if p0 = 11 then
                    let u11 : MS := ms_s u (upd (mq_s u) 22 (p0 - 10))
                    True
                  else
                    if p0 = 14 then
                      let r12 : MS := f_X7_left u (mq_s u 17)
                      True
                    else
                      if 8 ≤ p0 then
                        ok_X7_next u ∧
                        let r13 : Int32 × MS := f_X7_next u
                        let r14 : MS := f_X7_carries r13.2 (p0 &&& 7) r13.1
                        True
                      else
                        ok_X7_m u (mq_s u 19) ∧
                        let r15 : MS := f_X7_carries u (p0 &&& 7) (f_X7_m u (mq_s u 19))
                        True
set_option maxHeartbeats 4000000 in
set_option maxRecDepth 100000 in
theorem c_X7_seven (l : Launch) (dC : Nat → ClassId) (dI : Nat → Nat → Nat) (cI cZ : ClassId) (x : Nat → Nat) (hi : g_inj 7 x) (u : MS) (p0 : Int32) (hok : ok_X7_seven u p0) : g_Mv l yX7_seven (.code yX7_seven cX7_seven 2 none) { frames := 3, cells := 0, slots := 0, locals := 64 } (dC, dI) vwCl (tysW cI cZ) (wM x cI cZ) (g_bA 7 x) u [.ref (x 0), .int p0] (f_X7_seven u p0) := by
  refine Met.ofW (cc := cX7_seven) (maxL := 2) (ret := none) (by decide) rfl ?_
  intro p e s m args below meth c s₁ B hml hv
  obtain ⟨rfl, hP, hK⟩ := hv
  have hx := B.exec
  have hb := B.bytes
  have hr := B.returns
  have hts := atoms_spec (ws := .code yX7_seven cX7_seven 2 none :: gtbl) B.pre
  have hg : ∀ w ∈ gtbl, w.before _ s = true := fun w h => hts w (List.mem_cons_of_mem _ h)
  have hown : s.vm.findClass RX7 = some m.cls := findClass_of_methodNamed B.named
  have hlocks := B.notSynchronized
  have hS : va_S (g_bA 7 x) s.heap s.heap [] := va_S.rf
  have hl := lv_entry ([.ref (x 0), .int p0]) (n := 2) (Nat.le_of_ble_eq_true rfl)
  rw [lg_entry_eq]
  generalize (lg_sl ([.ref (x 0), .int p0]) ++ List.replicate (2 - (lg_sl ([.ref (x 0), .int p0])).length) Slot.unset).toArray = ls at hl ⊢
  have hl : lv_has ls 2 [(0, .ref (x 0)), (1, .int p0)] := hl
  obtain ⟨F, hF⟩ : ∃ F, f_X7_seven u p0 = F := ⟨_, rfl⟩
  rw [hF]
  refine lv_iload_n hx hb dX7_seven_0 rfl (lv_at hl 1 rfl) ?_
  refine sw_case (v := 0) (fun c1 => ?_) (fun c1 => ?_)
  · have hF := (if_pos c1).symm.trans hF
    have hok := Eq.mp (if_pos c1) hok
    refine sw_in (off := 75) (tgt := 76) 0 hx hb dX7_seven_1 c1 (by decide) (by decide) ?_
    refine lv_aload_n hx hb dX7_seven_76 rfl (lv_at hl 0 rfl) ?_
    refine lv_iconst (v := 1) hx hb dX7_seven_77 (by decide) ?_
    refine lv_iload_n hx hb dX7_seven_78 rfl (lv_at hl 1 rfl) ?_
    refine lv_isub hx hb dX7_seven_79 ?_
    obtain ⟨c2, hok⟩ := hok
    refine g_Vv hx hb hml hown hg (c_X7_comeBack l dC dI cI cZ x hi _ _ c2) cs_X7_82 rfl rfl ⟨Nat.le_of_ble_eq_true rfl, Nat.le_of_ble_eq_true rfl⟩ hK hP hS (q0 := 0) rfl rfl rfl hl.1 rfl (Nat.le_of_ble_eq_true rfl) dX7_seven_80 ⟨Nat.zero_le _, Nat.zero_le _⟩ (fun H locs hP hS => ?_)
    refine lv_goto (tgt := 264) hx hb dX7_seven_83 (by decide) ?_
    exact g_vret hx hb hr hlocks hP hS dX7_seven_264 hF
  · have hF := (if_neg c1).symm.trans hF
    have hok := Eq.mp (if_neg c1) hok
    refine sw_case (v := 1) (fun c3 => ?_) (fun c3 => ?_)
    · have hF := (if_pos c3).symm.trans hF
      have hok := Eq.mp (if_pos c3) hok
      refine sw_in (off := 75) (tgt := 76) 1 hx hb dX7_seven_1 c3 (by decide) (by decide) ?_
      refine lv_aload_n hx hb dX7_seven_76 rfl (lv_at hl 0 rfl) ?_
      refine lv_iconst (v := 1) hx hb dX7_seven_77 (by decide) ?_
      refine lv_iload_n hx hb dX7_seven_78 rfl (lv_at hl 1 rfl) ?_
      refine lv_isub hx hb dX7_seven_79 ?_
      obtain ⟨c4, hok⟩ := hok
      refine g_Vv hx hb hml hown hg (c_X7_comeBack l dC dI cI cZ x hi _ _ c4) cs_X7_82 rfl rfl ⟨Nat.le_of_ble_eq_true rfl, Nat.le_of_ble_eq_true rfl⟩ hK hP hS (q0 := 0) rfl rfl rfl hl.1 rfl (Nat.le_of_ble_eq_true rfl) dX7_seven_80 ⟨Nat.zero_le _, Nat.zero_le _⟩ (fun H locs hP hS => ?_)
      refine lv_goto (tgt := 264) hx hb dX7_seven_83 (by decide) ?_
      exact g_vret hx hb hr hlocks hP hS dX7_seven_264 hF
    · have hF := (if_neg c3).symm.trans hF
      have hok := Eq.mp (if_neg c3) hok
      refine sw_case (v := 2) (fun c5 => ?_) (fun c5 => ?_)
      · have hF := (if_pos c5).symm.trans hF
        have hok := Eq.mp (if_pos c5) hok
        refine sw_in (off := 85) (tgt := 86) 2 hx hb dX7_seven_1 c5 (by decide) (by decide) ?_
        refine lv_aload_n hx hb dX7_seven_86 rfl (lv_at hl 0 rfl) ?_
        refine ge_X7_s hx hb hg hown kf_X7_13 hK hP dX7_seven_87 ?_
        refine lv_bipush (v := 16) hx hb dX7_seven_90 (by decide) ?_
        refine lv_aload_n hx hb dX7_seven_92 rfl (lv_at hl 0 rfl) ?_
        refine lv_aload_n hx hb dX7_seven_93 rfl (lv_at hl 0 rfl) ?_
        refine ge_X7_s hx hb hg hown kf_X7_13 hK hP dX7_seven_94 ?_
        refine lv_bipush (v := 19) hx hb dX7_seven_97 (by decide) ?_
        refine mlc_s 19 (by decide) hx hb hK hP dX7_seven_99 ?_
        obtain ⟨c6, hok⟩ := hok
        refine g_Vi hx hb hml hown hg (c_X7_m l dC dI cI cZ x hi _ _ c6) cs_X7_47 rfl rfl ⟨Nat.le_of_ble_eq_true rfl, Nat.le_of_ble_eq_true rfl⟩ hK hP hS (q0 := 0) rfl rfl rfl hl.1 rfl (Nat.le_of_ble_eq_true rfl) dX7_seven_100 ⟨Nat.zero_le _, Nat.zero_le _⟩ (fun H locs hP hS => ?_)
        refine mac_s 16 (by decide) hi hx hb hK hP hS dX7_seven_103 (fun H locs hP hS => ?_)
        refine lv_aload_n hx hb dX7_seven_104 rfl (lv_at hl 0 rfl) ?_
        refine lv_aload_n hx hb dX7_seven_105 rfl (lv_at hl 0 rfl) ?_
        refine ge_X7_s hx hb hg hown kf_X7_13 hK hP dX7_seven_106 ?_
        refine lv_bipush (v := 19) hx hb dX7_seven_109 (by decide) ?_
        refine mlc_s 19 (by decide) hx hb hK hP dX7_seven_111 ?_
        refine lv_iconst (v := 1) hx hb dX7_seven_112 (by decide) ?_
        obtain ⟨c7, hok⟩ := hok
        refine g_Vv hx hb hml hown hg (c_X7_grow l dC dI cI cZ x hi _ _ _ c7) cs_X7_50 rfl rfl ⟨Nat.le_of_ble_eq_true rfl, Nat.le_of_ble_eq_true rfl⟩ hK hP hS (q0 := 0) rfl rfl rfl hl.1 rfl (Nat.le_of_ble_eq_true rfl) dX7_seven_113 ⟨Nat.zero_le _, Nat.zero_le _⟩ (fun H locs hP hS => ?_)
        refine lv_goto (tgt := 264) hx hb dX7_seven_116 (by decide) ?_
        exact g_vret hx hb hr hlocks hP hS dX7_seven_264 hF
      · have hF := (if_neg c5).symm.trans hF
        have hok := Eq.mp (if_neg c5) hok
        refine sw_case (v := 3) (fun c8 => ?_) (fun c8 => ?_)
        · have hF := (if_pos c8).symm.trans hF
          have hok := Eq.mp (if_pos c8) hok
          refine sw_in (off := 118) (tgt := 119) 3 hx hb dX7_seven_1 c8 (by decide) (by decide) ?_
          refine lv_aload_n hx hb dX7_seven_119 rfl (lv_at hl 0 rfl) ?_
          refine lv_aload_n hx hb dX7_seven_120 rfl (lv_at hl 0 rfl) ?_
          refine ge_X7_s hx hb hg hown kf_X7_13 hK hP dX7_seven_121 ?_
          refine lv_aload_n hx hb dX7_seven_124 rfl (lv_at hl 0 rfl) ?_
          refine ge_X7_s hx hb hg hown kf_X7_13 hK hP dX7_seven_125 ?_
          refine lv_bipush (v := 19) hx hb dX7_seven_128 (by decide) ?_
          refine mlc_s 19 (by decide) hx hb hK hP dX7_seven_130 ?_
          obtain ⟨c9, hok⟩ := hok
          refine ml_s hx hb hK hP c9 dX7_seven_131 ?_
          refine lv_aload_n hx hb dX7_seven_132 rfl (lv_at hl 0 rfl) ?_
          refine ge_X7_s hx hb hg hown kf_X7_13 hK hP dX7_seven_133 ?_
          refine lv_bipush (v := 16) hx hb dX7_seven_136 (by decide) ?_
          refine mlc_s 16 (by decide) hx hb hK hP dX7_seven_138 ?_
          refine g_Vv hx hb hml hown hg (c_X7_store l dC dI cI cZ x hi _ _ _) cs_X7_79 rfl rfl ⟨Nat.le_of_ble_eq_true rfl, Nat.le_of_ble_eq_true rfl⟩ hK hP hS (q0 := 0) rfl rfl rfl hl.1 rfl (Nat.le_of_ble_eq_true rfl) dX7_seven_139 ⟨Nat.zero_le _, Nat.zero_le _⟩ (fun H locs hP hS => ?_)
          refine lv_aload_n hx hb dX7_seven_142 rfl (lv_at hl 0 rfl) ?_
          refine lv_aload_n hx hb dX7_seven_143 rfl (lv_at hl 0 rfl) ?_
          refine ge_X7_s hx hb hg hown kf_X7_13 hK hP dX7_seven_144 ?_
          refine lv_bipush (v := 19) hx hb dX7_seven_147 (by decide) ?_
          refine mlc_s 19 (by decide) hx hb hK hP dX7_seven_149 ?_
          refine lv_iconst (v := (-1)) hx hb dX7_seven_150 (by decide) ?_
          obtain ⟨c10, hok⟩ := hok
          refine g_Vv hx hb hml hown hg (c_X7_grow l dC dI cI cZ x hi _ _ _ c10) cs_X7_50 rfl rfl ⟨Nat.le_of_ble_eq_true rfl, Nat.le_of_ble_eq_true rfl⟩ hK hP hS (q0 := 0) rfl rfl rfl hl.1 rfl (Nat.le_of_ble_eq_true rfl) dX7_seven_151 ⟨Nat.zero_le _, Nat.zero_le _⟩ (fun H locs hP hS => ?_)
          refine lv_goto (tgt := 264) hx hb dX7_seven_154 (by decide) ?_
          exact g_vret hx hb hr hlocks hP hS dX7_seven_264 hF
        · have hF := (if_neg c8).symm.trans hF
          have hok := Eq.mp (if_neg c8) hok
          refine sw_case (v := 6) (fun c11 => ?_) (fun c11 => ?_)
          · have hF := (if_pos c11).symm.trans hF
            have hok := Eq.mp (if_pos c11) hok
            refine sw_in (off := 156) (tgt := 157) 6 hx hb dX7_seven_1 c11 (by decide) (by decide) ?_
            refine lv_aload_n hx hb dX7_seven_157 rfl (lv_at hl 0 rfl) ?_
            refine lv_aload_n hx hb dX7_seven_158 rfl (lv_at hl 0 rfl) ?_
            refine ge_X7_s hx hb hg hown kf_X7_13 hK hP dX7_seven_159 ?_
            refine lv_bipush (v := 17) hx hb dX7_seven_162 (by decide) ?_
            refine mlc_s 17 (by decide) hx hb hK hP dX7_seven_164 ?_
            refine g_Vv hx hb hml hown hg (c_X7_right l dC dI cI cZ x hi _ _) cs_X7_86 rfl rfl ⟨Nat.le_of_ble_eq_true rfl, Nat.le_of_ble_eq_true rfl⟩ hK hP hS (q0 := 0) rfl rfl rfl hl.1 rfl (Nat.le_of_ble_eq_true rfl) dX7_seven_165 ⟨Nat.zero_le _, Nat.zero_le _⟩ (fun H locs hP hS => ?_)
            refine lv_goto (tgt := 264) hx hb dX7_seven_168 (by decide) ?_
            exact g_vret hx hb hr hlocks hP hS dX7_seven_264 hF
          · have hF := (if_neg c11).symm.trans hF
            have hok := Eq.mp (if_neg c11) hok
            refine sw_case (v := 8) (fun c12 => ?_) (fun c12 => ?_)
            · have hF := (if_pos c12).symm.trans hF
              have hok := Eq.mp (if_pos c12) hok
              refine sw_in (off := 170) (tgt := 171) 8 hx hb dX7_seven_1 c12 (by decide) (by decide) ?_
              refine lv_aload_n hx hb dX7_seven_171 rfl (lv_at hl 0 rfl) ?_
              refine lv_aload_n hx hb dX7_seven_172 rfl (lv_at hl 0 rfl) ?_
              refine ge_X7_s hx hb hg hown kf_X7_13 hK hP dX7_seven_173 ?_
              refine lv_aload_n hx hb dX7_seven_176 rfl (lv_at hl 0 rfl) ?_
              refine ge_X7_s hx hb hg hown kf_X7_13 hK hP dX7_seven_177 ?_
              refine lv_bipush (v := 19) hx hb dX7_seven_180 (by decide) ?_
              refine mlc_s 19 (by decide) hx hb hK hP dX7_seven_182 ?_
              obtain ⟨c13, hok⟩ := hok
              refine ml_s hx hb hK hP c13 dX7_seven_183 ?_
              refine lv_aload_n hx hb dX7_seven_184 rfl (lv_at hl 0 rfl) ?_
              refine ge_X7_s hx hb hg hown kf_X7_13 hK hP dX7_seven_185 ?_
              refine lv_bipush (v := 20) hx hb dX7_seven_188 (by decide) ?_
              refine mlc_s 20 (by decide) hx hb hK hP dX7_seven_190 ?_
              refine g_Vv hx hb hml hown hg (c_X7_store l dC dI cI cZ x hi _ _ _) cs_X7_79 rfl rfl ⟨Nat.le_of_ble_eq_true rfl, Nat.le_of_ble_eq_true rfl⟩ hK hP hS (q0 := 0) rfl rfl rfl hl.1 rfl (Nat.le_of_ble_eq_true rfl) dX7_seven_191 ⟨Nat.zero_le _, Nat.zero_le _⟩ (fun H locs hP hS => ?_)
              refine lv_goto (tgt := 264) hx hb dX7_seven_194 (by decide) ?_
              exact g_vret hx hb hr hlocks hP hS dX7_seven_264 hF
            · have hF := (if_neg c12).symm.trans hF
              have hok := Eq.mp (if_neg c12) hok
              refine sw_case (v := 9) (fun c14 => ?_) (fun c14 => ?_)
              · have hF := (if_pos c14).symm.trans hF
                have hok := Eq.mp (if_pos c14) hok
                refine sw_in (off := 196) (tgt := 197) 9 hx hb dX7_seven_1 c14 (by decide) (by decide) ?_
                refine lv_aload_n hx hb dX7_seven_197 rfl (lv_at hl 0 rfl) ?_
                obtain ⟨c15, hok⟩ := hok
                refine g_Vv hx hb hml hown hg (c_X7_mark l dC dI cI cZ x hi _ c15) cs_X7_89 rfl rfl ⟨Nat.le_of_ble_eq_true rfl, Nat.le_of_ble_eq_true rfl⟩ hK hP hS (q0 := 0) rfl rfl rfl hl.1 rfl (Nat.le_of_ble_eq_true rfl) dX7_seven_198 ⟨Nat.zero_le _, Nat.zero_le _⟩ (fun H locs hP hS => ?_)
                refine lv_goto (tgt := 264) hx hb dX7_seven_201 (by decide) ?_
                exact g_vret hx hb hr hlocks hP hS dX7_seven_264 hF
              · have hF := (if_neg c14).symm.trans hF
                have hok := Eq.mp (if_neg c14) hok
                refine sw_case (v := 10) (fun c16 => ?_) (fun c16 => ?_)
                · have hF := (if_pos c16).symm.trans hF
                  have hok := Eq.mp (if_pos c16) hok
                  refine sw_in (off := 203) (tgt := 204) 10 hx hb dX7_seven_1 c16 (by decide) (by decide) ?_
                  refine lv_aload_n hx hb dX7_seven_204 rfl (lv_at hl 0 rfl) ?_
                  refine ge_X7_s hx hb hg hown kf_X7_13 hK hP dX7_seven_205 ?_
                  refine lv_bipush (v := 22) hx hb dX7_seven_208 (by decide) ?_
                  refine lv_iload_n hx hb dX7_seven_210 rfl (lv_at hl 1 rfl) ?_
                  refine lv_bipush (v := 10) hx hb dX7_seven_211 (by decide) ?_
                  refine lv_isub hx hb dX7_seven_213 ?_
                  refine mac_s 22 (by decide) hi hx hb hK hP hS dX7_seven_214 (fun H locs hP hS => ?_)
                  refine lv_goto (tgt := 264) hx hb dX7_seven_215 (by decide) ?_
                  exact g_vret hx hb hr hlocks hP hS dX7_seven_264 hF
                · have hF := (if_neg c16).symm.trans hF
                  have hok := Eq.mp (if_neg c16) hok
                  refine sw_case (v := 11) (fun c17 => ?_) (fun c17 => ?_)
                  · have hF := (if_pos c17).symm.trans hF
                    have hok := Eq.mp (if_pos c17) hok
                    refine sw_in (off := 203) (tgt := 204) 11 hx hb dX7_seven_1 c17 (by decide) (by decide) ?_
                    refine lv_aload_n hx hb dX7_seven_204 rfl (lv_at hl 0 rfl) ?_
                    refine ge_X7_s hx hb hg hown kf_X7_13 hK hP dX7_seven_205 ?_
                    refine lv_bipush (v := 22) hx hb dX7_seven_208 (by decide) ?_
                    refine lv_iload_n hx hb dX7_seven_210 rfl (lv_at hl 1 rfl) ?_
                    refine lv_bipush (v := 10) hx hb dX7_seven_211 (by decide) ?_
                    refine lv_isub hx hb dX7_seven_213 ?_
                    refine mac_s 22 (by decide) hi hx hb hK hP hS dX7_seven_214 (fun H locs hP hS => ?_)
                    refine lv_goto (tgt := 264) hx hb dX7_seven_215 (by decide) ?_
                    exact g_vret hx hb hr hlocks hP hS dX7_seven_264 hF
                  · have hF := (if_neg c17).symm.trans hF
                    have hok := Eq.mp (if_neg c17) hok
                    refine sw_case (v := 14) (fun c18 => ?_) (fun c18 => ?_)
                    · have hF := (if_pos c18).symm.trans hF
                      have hok := Eq.mp (if_pos c18) hok
                      refine sw_in (off := 217) (tgt := 218) 14 hx hb dX7_seven_1 c18 (by decide) (by decide) ?_
                      refine lv_aload_n hx hb dX7_seven_218 rfl (lv_at hl 0 rfl) ?_
                      refine lv_aload_n hx hb dX7_seven_219 rfl (lv_at hl 0 rfl) ?_
                      refine ge_X7_s hx hb hg hown kf_X7_13 hK hP dX7_seven_220 ?_
                      refine lv_bipush (v := 17) hx hb dX7_seven_223 (by decide) ?_
                      refine mlc_s 17 (by decide) hx hb hK hP dX7_seven_225 ?_
                      refine g_Vv hx hb hml hown hg (c_X7_left l dC dI cI cZ x hi _ _) cs_X7_92 rfl rfl ⟨Nat.le_of_ble_eq_true rfl, Nat.le_of_ble_eq_true rfl⟩ hK hP hS (q0 := 0) rfl rfl rfl hl.1 rfl (Nat.le_of_ble_eq_true rfl) dX7_seven_226 ⟨Nat.zero_le _, Nat.zero_le _⟩ (fun H locs hP hS => ?_)
                      refine lv_goto (tgt := 264) hx hb dX7_seven_229 (by decide) ?_
                      exact g_vret hx hb hr hlocks hP hS dX7_seven_264 hF
                    · have hF := (if_neg c18).symm.trans hF
                      have hok := Eq.mp (if_neg c18) hok
                      refine sw_def (tgt := 232) [0, 1, 2, 3, 6, 8, 9, 10, 11, 14] hx hb dX7_seven_1 (List.forall_mem_cons.mpr ⟨c1, List.forall_mem_cons.mpr ⟨c3, List.forall_mem_cons.mpr ⟨c5, List.forall_mem_cons.mpr ⟨c8, List.forall_mem_cons.mpr ⟨c11, List.forall_mem_cons.mpr ⟨c12, List.forall_mem_cons.mpr ⟨c14, List.forall_mem_cons.mpr ⟨c16, List.forall_mem_cons.mpr ⟨c17, List.forall_mem_cons.mpr ⟨c18, fun _ h => absurd h List.not_mem_nil⟩⟩⟩⟩⟩⟩⟩⟩⟩⟩) (by decide) (by decide) ?_
                      refine lv_aload_n hx hb dX7_seven_232 rfl (lv_at hl 0 rfl) ?_
                      refine lv_iload_n hx hb dX7_seven_233 rfl (lv_at hl 1 rfl) ?_
                      refine lv_bipush (v := 7) hx hb dX7_seven_234 (by decide) ?_
                      refine lv_iand hx hb dX7_seven_236 ?_
                      refine lv_iload_n hx hb dX7_seven_237 rfl (lv_at hl 1 rfl) ?_
                      refine lv_bipush (v := 8) hx hb dX7_seven_238 (by decide) ?_
                      refine lv_icmp_ge (tgt := 257) hx hb dX7_seven_240 (by decide) (fun c19 => ?_) (fun c19 => ?_)
                      · have hF := (if_pos c19).symm.trans hF
                        have hok := Eq.mp (if_pos c19) hok
                        refine lv_aload_n hx hb dX7_seven_257 rfl (lv_at hl 0 rfl) ?_
                        obtain ⟨c20, hok⟩ := hok
                        refine g_Vi hx hb hml hown hg (c_X7_next l dC dI cI cZ x hi _ c20) cs_X7_95 rfl rfl ⟨Nat.le_of_ble_eq_true rfl, Nat.le_of_ble_eq_true rfl⟩ hK hP hS (q0 := 0) rfl rfl rfl hl.1 rfl (Nat.le_of_ble_eq_true rfl) dX7_seven_258 ⟨Nat.zero_le _, Nat.zero_le _⟩ (fun H locs hP hS => ?_)
                        refine g_Vv hx hb hml hown hg (c_X7_carries l dC dI cI cZ x hi _ _ _) cs_X7_99 rfl rfl ⟨Nat.le_of_ble_eq_true rfl, Nat.le_of_ble_eq_true rfl⟩ hK hP hS (q0 := 0) rfl rfl rfl hl.1 rfl (Nat.le_of_ble_eq_true rfl) dX7_seven_261 ⟨Nat.zero_le _, Nat.zero_le _⟩ (fun H locs hP hS => ?_)
                        exact g_vret hx hb hr hlocks hP hS dX7_seven_264 hF
                      · have hF := (if_neg c19).symm.trans hF
                        have hok := Eq.mp (if_neg c19) hok
                        refine lv_aload_n hx hb dX7_seven_243 rfl (lv_at hl 0 rfl) ?_
                        refine lv_aload_n hx hb dX7_seven_244 rfl (lv_at hl 0 rfl) ?_
                        refine ge_X7_s hx hb hg hown kf_X7_13 hK hP dX7_seven_245 ?_
                        refine lv_bipush (v := 19) hx hb dX7_seven_248 (by decide) ?_
                        refine mlc_s 19 (by decide) hx hb hK hP dX7_seven_250 ?_
                        obtain ⟨c21, hok⟩ := hok
                        refine g_Vi hx hb hml hown hg (c_X7_m l dC dI cI cZ x hi _ _ c21) cs_X7_47 rfl rfl ⟨Nat.le_of_ble_eq_true rfl, Nat.le_of_ble_eq_true rfl⟩ hK hP hS (q0 := 0) rfl rfl rfl hl.1 rfl (Nat.le_of_ble_eq_true rfl) dX7_seven_251 ⟨Nat.zero_le _, Nat.zero_le _⟩ (fun H locs hP hS => ?_)
                        refine lv_goto (tgt := 261) hx hb dX7_seven_254 (by decide) ?_
                        refine g_Vv hx hb hml hown hg (c_X7_carries l dC dI cI cZ x hi _ _ _) cs_X7_99 rfl rfl ⟨Nat.le_of_ble_eq_true rfl, Nat.le_of_ble_eq_true rfl⟩ hK hP hS (q0 := 0) rfl rfl rfl hl.1 rfl (Nat.le_of_ble_eq_true rfl) dX7_seven_261 ⟨Nat.zero_le _, Nat.zero_le _⟩ (fun H locs hP hS => ?_)
                        exact g_vret hx hb hr hlocks hP hS dX7_seven_264 hF
def f_X7_reckon (u : MS) (p0 : Int32) : MS :=
  if p0 = 6 then
    let r1 : MS := f_X7_right u 0
    r1
  else
    if p0 = 14 then
      let r2 : MS := f_X7_left u 0
      r2
    else
      if 8 ≤ p0 then
        let r3 : Int32 × MS := f_X7_next u
        let t4 : Int32 := r3.1
        if (p0 &&& 7) = 0 then
          let u5 : MS := ms_s r3.2 (upd (mq_s r3.2) 16 t4)
          u5
        else
          if (p0 &&& 7) = 1 then
            let u6 : MS := ms_s r3.2 (upd (mq_s r3.2) 16 ((mq_s r3.2 16) ||| t4))
            u6
          else
            if (p0 &&& 7) = 2 then
              let u7 : MS := ms_s r3.2 (upd (mq_s r3.2) 16 ((mq_s r3.2 16) &&& t4))
              u7
            else
              if (p0 &&& 7) = 3 then
                let u8 : MS := ms_s r3.2 (upd (mq_s r3.2) 16 ((mq_s r3.2 16) ^^^ t4))
                u8
              else
                if (p0 &&& 7) = 4 then
                  let r9 : MS := f_X7_sum r3.2 t4 (mq_s r3.2 16)
                  r9
                else
                  if (p0 &&& 7) = 5 then
                    let r10 : MS := f_X7_less r3.2 t4 (mq_s r3.2 16) 0
                    r10
                  else
                    let r11 : MS := f_X7_less r3.2 (mq_s r3.2 16) t4 0
                    r11
      else
        let t12 : Int32 := (f_X7_m u (mq_s u 19))
        if (p0 &&& 7) = 0 then
          let u13 : MS := ms_s u (upd (mq_s u) 16 t12)
          u13
        else
          if (p0 &&& 7) = 1 then
            let u14 : MS := ms_s u (upd (mq_s u) 16 ((mq_s u 16) ||| t12))
            u14
          else
            if (p0 &&& 7) = 2 then
              let u15 : MS := ms_s u (upd (mq_s u) 16 ((mq_s u 16) &&& t12))
              u15
            else
              if (p0 &&& 7) = 3 then
                let u16 : MS := ms_s u (upd (mq_s u) 16 ((mq_s u 16) ^^^ t12))
                u16
              else
                if (p0 &&& 7) = 4 then
                  let r17 : MS := f_X7_sum u t12 (mq_s u 16)
                  r17
                else
                  if (p0 &&& 7) = 5 then
                    let r18 : MS := f_X7_less u t12 (mq_s u 16) 0
                    r18
                  else
                    let r19 : MS := f_X7_less u (mq_s u 16) t12 0
                    r19
def ok_X7_reckon (u : MS) (p0 : Int32) : Prop :=
  if p0 = 6 then
    let r1 : MS := f_X7_right u 0
    True
  else
    if p0 = 14 then
      let r2 : MS := f_X7_left u 0
      True
    else
      if 8 ≤ p0 then
        ok_X7_next u ∧
        let r3 : Int32 × MS := f_X7_next u
        let t4 : Int32 := r3.1
        if (p0 &&& 7) = 0 then
          let u5 : MS := ms_s r3.2 (upd (mq_s r3.2) 16 t4)
          True
        else
          if (p0 &&& 7) = 1 then
            let u6 : MS := ms_s r3.2 (upd (mq_s r3.2) 16 ((mq_s r3.2 16) ||| t4))
            True
          else
            if (p0 &&& 7) = 2 then
              let u7 : MS := ms_s r3.2 (upd (mq_s r3.2) 16 ((mq_s r3.2 16) &&& t4))
              True
            else
              if (p0 &&& 7) = 3 then
                let u8 : MS := ms_s r3.2 (upd (mq_s r3.2) 16 ((mq_s r3.2 16) ^^^ t4))
                True
              else
                if (p0 &&& 7) = 4 then
                  let r9 : MS := f_X7_sum r3.2 t4 (mq_s r3.2 16)
                  True
                else
                  if (p0 &&& 7) = 5 then
                    let r10 : MS := f_X7_less r3.2 t4 (mq_s r3.2 16) 0
                    True
                  else
                    let r11 : MS := f_X7_less r3.2 (mq_s r3.2 16) t4 0
                    True
      else
        ok_X7_m u (mq_s u 19) ∧
        let t12 : Int32 := (f_X7_m u (mq_s u 19))
        if (p0 &&& 7) = 0 then
          let u13 : MS := ms_s u (upd (mq_s u) 16 t12)
          True
        else
          if (p0 &&& 7) = 1 then
            let u14 : MS := ms_s u (upd (mq_s u) 16 ((mq_s u 16) ||| t12))
            True
          else
            if (p0 &&& 7) = 2 then
              let u15 : MS := ms_s u (upd (mq_s u) 16 ((mq_s u 16) &&& t12))
              True
            else
              if (p0 &&& 7) = 3 then
                let u16 : MS := ms_s u (upd (mq_s u) 16 ((mq_s u 16) ^^^ t12))
                True
              else
                if (p0 &&& 7) = 4 then
                  let r17 : MS := f_X7_sum u t12 (mq_s u 16)
                  True
                else
                  if (p0 &&& 7) = 5 then
                    let r18 : MS := f_X7_less u t12 (mq_s u 16) 0
                    True
                  else
                    let r19 : MS := f_X7_less u (mq_s u 16) t12 0
                    True
set_option maxHeartbeats 4000000 in
set_option maxRecDepth 100000 in
theorem c_X7_reckon (l : Launch) (dC : Nat → ClassId) (dI : Nat → Nat → Nat) (cI cZ : ClassId) (x : Nat → Nat) (hi : g_inj 7 x) (u : MS) (p0 : Int32) (hok : ok_X7_reckon u p0) : g_Mv l yX7_reckon (.code yX7_reckon cX7_reckon 3 none) { frames := 3, cells := 0, slots := 0, locals := 63 } (dC, dI) vwCl (tysW cI cZ) (wM x cI cZ) (g_bA 7 x) u [.ref (x 0), .int p0] (f_X7_reckon u p0) := by
  refine Met.ofW (cc := cX7_reckon) (maxL := 3) (ret := none) (by decide) rfl ?_
  intro p e s m args below meth c s₁ B hml hv
  obtain ⟨rfl, hP, hK⟩ := hv
  have hx := B.exec
  have hb := B.bytes
  have hr := B.returns
  have hts := atoms_spec (ws := .code yX7_reckon cX7_reckon 3 none :: gtbl) B.pre
  have hg : ∀ w ∈ gtbl, w.before _ s = true := fun w h => hts w (List.mem_cons_of_mem _ h)
  have hown : s.vm.findClass RX7 = some m.cls := findClass_of_methodNamed B.named
  have hlocks := B.notSynchronized
  have hS : va_S (g_bA 7 x) s.heap s.heap [] := va_S.rf
  have hl := lv_entry ([.ref (x 0), .int p0]) (n := 3) (Nat.le_of_ble_eq_true rfl)
  rw [lg_entry_eq]
  generalize (lg_sl ([.ref (x 0), .int p0]) ++ List.replicate (3 - (lg_sl ([.ref (x 0), .int p0])).length) Slot.unset).toArray = ls at hl ⊢
  have hl : lv_has ls 3 [(0, .ref (x 0)), (1, .int p0)] := hl
  obtain ⟨F, hF⟩ : ∃ F, f_X7_reckon u p0 = F := ⟨_, rfl⟩
  rw [hF]
  refine lv_iload_n hx hb dX7_reckon_0 rfl (lv_at hl 1 rfl) ?_
  refine lv_bipush (v := 6) hx hb dX7_reckon_1 (by decide) ?_
  refine lv_icmp_ne (tgt := 12) hx hb dX7_reckon_3 (by decide) (fun c1 => ?_) (fun c1 => ?_)
  · have hF := (if_neg c1).symm.trans hF
    have hok := Eq.mp (if_neg c1) hok
    refine lv_iload_n hx hb dX7_reckon_12 rfl (lv_at hl 1 rfl) ?_
    refine lv_bipush (v := 14) hx hb dX7_reckon_13 (by decide) ?_
    refine lv_icmp_ne (tgt := 24) hx hb dX7_reckon_15 (by decide) (fun c2 => ?_) (fun c2 => ?_)
    · have hF := (if_neg c2).symm.trans hF
      have hok := Eq.mp (if_neg c2) hok
      refine lv_iload_n hx hb dX7_reckon_24 rfl (lv_at hl 1 rfl) ?_
      refine lv_bipush (v := 8) hx hb dX7_reckon_25 (by decide) ?_
      refine lv_icmp_ge (tgt := 44) hx hb dX7_reckon_27 (by decide) (fun c3 => ?_) (fun c3 => ?_)
      · have hF := (if_pos c3).symm.trans hF
        have hok := Eq.mp (if_pos c3) hok
        refine lv_aload_n hx hb dX7_reckon_44 rfl (lv_at hl 0 rfl) ?_
        obtain ⟨c4, hok⟩ := hok
        refine g_Vi hx hb hml hown hg (c_X7_next l dC dI cI cZ x hi _ c4) cs_X7_95 rfl rfl ⟨Nat.le_of_ble_eq_true rfl, Nat.le_of_ble_eq_true rfl⟩ hK hP hS (q0 := 0) rfl rfl rfl hl.1 rfl (Nat.le_of_ble_eq_true rfl) dX7_reckon_45 ⟨Nat.zero_le _, Nat.zero_le _⟩ (fun H locs hP hS => ?_)
        refine lv_istore_n hx hb dX7_reckon_48 rfl hl (by decide) rfl (fun ls hl => ?_)
        have hl : lv_has ls 3 [(2, _), (0, _), (1, _)] := hl
        refine lv_iload_n hx hb dX7_reckon_49 rfl (lv_at hl 2 rfl) ?_
        refine lv_bipush (v := 7) hx hb dX7_reckon_50 (by decide) ?_
        refine lv_iand hx hb dX7_reckon_52 ?_
        refine sw_case (v := 0) (fun c5 => ?_) (fun c5 => ?_)
        · have hF := (if_pos c5).symm.trans hF
          have hok := Eq.mp (if_pos c5) hok
          refine sw_in (off := 39) (tgt := 92) 0 hx hb dX7_reckon_53 c5 (by decide) (by decide) ?_
          refine lv_aload_n hx hb dX7_reckon_92 rfl (lv_at hl 1 rfl) ?_
          refine ge_X7_s hx hb hg hown kf_X7_13 hK hP dX7_reckon_93 ?_
          refine lv_bipush (v := 16) hx hb dX7_reckon_96 (by decide) ?_
          refine lv_iload_n hx hb dX7_reckon_98 rfl (lv_at hl 0 rfl) ?_
          refine mac_s 16 (by decide) hi hx hb hK hP hS dX7_reckon_99 (fun H locs hP hS => ?_)
          refine lv_goto (tgt := 189) hx hb dX7_reckon_100 (by decide) ?_
          exact g_vret hx hb hr hlocks hP hS dX7_reckon_189 hF
        · have hF := (if_neg c5).symm.trans hF
          have hok := Eq.mp (if_neg c5) hok
          refine sw_case (v := 1) (fun c6 => ?_) (fun c6 => ?_)
          · have hF := (if_pos c6).symm.trans hF
            have hok := Eq.mp (if_pos c6) hok
            refine sw_in (off := 50) (tgt := 103) 1 hx hb dX7_reckon_53 c6 (by decide) (by decide) ?_
            refine lv_aload_n hx hb dX7_reckon_103 rfl (lv_at hl 1 rfl) ?_
            refine ge_X7_s hx hb hg hown kf_X7_13 hK hP dX7_reckon_104 ?_
            refine lv_bipush (v := 16) hx hb dX7_reckon_107 (by decide) ?_
            refine lv_dup2_11 hx hb dX7_reckon_109 rfl rfl ?_
            refine mlc_s 16 (by decide) hx hb hK hP dX7_reckon_110 ?_
            refine lv_iload_n hx hb dX7_reckon_111 rfl (lv_at hl 0 rfl) ?_
            refine lv_ior hx hb dX7_reckon_112 ?_
            refine mac_s 16 (by decide) hi hx hb hK hP hS dX7_reckon_113 (fun H locs hP hS => ?_)
            refine lv_goto (tgt := 189) hx hb dX7_reckon_114 (by decide) ?_
            exact g_vret hx hb hr hlocks hP hS dX7_reckon_189 hF
          · have hF := (if_neg c6).symm.trans hF
            have hok := Eq.mp (if_neg c6) hok
            refine sw_case (v := 2) (fun c7 => ?_) (fun c7 => ?_)
            · have hF := (if_pos c7).symm.trans hF
              have hok := Eq.mp (if_pos c7) hok
              refine sw_in (off := 64) (tgt := 117) 2 hx hb dX7_reckon_53 c7 (by decide) (by decide) ?_
              refine lv_aload_n hx hb dX7_reckon_117 rfl (lv_at hl 1 rfl) ?_
              refine ge_X7_s hx hb hg hown kf_X7_13 hK hP dX7_reckon_118 ?_
              refine lv_bipush (v := 16) hx hb dX7_reckon_121 (by decide) ?_
              refine lv_dup2_11 hx hb dX7_reckon_123 rfl rfl ?_
              refine mlc_s 16 (by decide) hx hb hK hP dX7_reckon_124 ?_
              refine lv_iload_n hx hb dX7_reckon_125 rfl (lv_at hl 0 rfl) ?_
              refine lv_iand hx hb dX7_reckon_126 ?_
              refine mac_s 16 (by decide) hi hx hb hK hP hS dX7_reckon_127 (fun H locs hP hS => ?_)
              refine lv_goto (tgt := 189) hx hb dX7_reckon_128 (by decide) ?_
              exact g_vret hx hb hr hlocks hP hS dX7_reckon_189 hF
            · have hF := (if_neg c7).symm.trans hF
              have hok := Eq.mp (if_neg c7) hok
              refine sw_case (v := 3) (fun c8 => ?_) (fun c8 => ?_)
              · have hF := (if_pos c8).symm.trans hF
                have hok := Eq.mp (if_pos c8) hok
                refine sw_in (off := 78) (tgt := 131) 3 hx hb dX7_reckon_53 c8 (by decide) (by decide) ?_
                refine lv_aload_n hx hb dX7_reckon_131 rfl (lv_at hl 1 rfl) ?_
                refine ge_X7_s hx hb hg hown kf_X7_13 hK hP dX7_reckon_132 ?_
                refine lv_bipush (v := 16) hx hb dX7_reckon_135 (by decide) ?_
                refine lv_dup2_11 hx hb dX7_reckon_137 rfl rfl ?_
                refine mlc_s 16 (by decide) hx hb hK hP dX7_reckon_138 ?_
                refine lv_iload_n hx hb dX7_reckon_139 rfl (lv_at hl 0 rfl) ?_
                refine lv_ixor hx hb dX7_reckon_140 ?_
                refine mac_s 16 (by decide) hi hx hb hK hP hS dX7_reckon_141 (fun H locs hP hS => ?_)
                refine lv_goto (tgt := 189) hx hb dX7_reckon_142 (by decide) ?_
                exact g_vret hx hb hr hlocks hP hS dX7_reckon_189 hF
              · have hF := (if_neg c8).symm.trans hF
                have hok := Eq.mp (if_neg c8) hok
                refine sw_case (v := 4) (fun c9 => ?_) (fun c9 => ?_)
                · have hF := (if_pos c9).symm.trans hF
                  have hok := Eq.mp (if_pos c9) hok
                  refine sw_in (off := 92) (tgt := 145) 4 hx hb dX7_reckon_53 c9 (by decide) (by decide) ?_
                  refine lv_aload_n hx hb dX7_reckon_145 rfl (lv_at hl 1 rfl) ?_
                  refine lv_iload_n hx hb dX7_reckon_146 rfl (lv_at hl 0 rfl) ?_
                  refine lv_aload_n hx hb dX7_reckon_147 rfl (lv_at hl 1 rfl) ?_
                  refine ge_X7_s hx hb hg hown kf_X7_13 hK hP dX7_reckon_148 ?_
                  refine lv_bipush (v := 16) hx hb dX7_reckon_151 (by decide) ?_
                  refine mlc_s 16 (by decide) hx hb hK hP dX7_reckon_153 ?_
                  refine g_Vv hx hb hml hown hg (c_X7_sum l dC dI cI cZ x hi _ _ _) cs_X7_109 rfl rfl ⟨Nat.le_of_ble_eq_true rfl, Nat.le_of_ble_eq_true rfl⟩ hK hP hS (q0 := 0) rfl rfl rfl hl.1 rfl (Nat.le_of_ble_eq_true rfl) dX7_reckon_154 ⟨Nat.zero_le _, Nat.zero_le _⟩ (fun H locs hP hS => ?_)
                  refine lv_goto (tgt := 189) hx hb dX7_reckon_157 (by decide) ?_
                  exact g_vret hx hb hr hlocks hP hS dX7_reckon_189 hF
                · have hF := (if_neg c9).symm.trans hF
                  have hok := Eq.mp (if_neg c9) hok
                  refine sw_case (v := 5) (fun c10 => ?_) (fun c10 => ?_)
                  · have hF := (if_pos c10).symm.trans hF
                    have hok := Eq.mp (if_pos c10) hok
                    refine sw_in (off := 107) (tgt := 160) 5 hx hb dX7_reckon_53 c10 (by decide) (by decide) ?_
                    refine lv_aload_n hx hb dX7_reckon_160 rfl (lv_at hl 1 rfl) ?_
                    refine lv_iload_n hx hb dX7_reckon_161 rfl (lv_at hl 0 rfl) ?_
                    refine lv_aload_n hx hb dX7_reckon_162 rfl (lv_at hl 1 rfl) ?_
                    refine ge_X7_s hx hb hg hown kf_X7_13 hK hP dX7_reckon_163 ?_
                    refine lv_bipush (v := 16) hx hb dX7_reckon_166 (by decide) ?_
                    refine mlc_s 16 (by decide) hx hb hK hP dX7_reckon_168 ?_
                    refine lv_iconst (v := 0) hx hb dX7_reckon_169 (by decide) ?_
                    refine g_Vv hx hb hml hown hg (c_X7_less l dC dI cI cZ x hi _ _ _ _) cs_X7_105 rfl rfl ⟨Nat.le_of_ble_eq_true rfl, Nat.le_of_ble_eq_true rfl⟩ hK hP hS (q0 := 0) rfl rfl rfl hl.1 rfl (Nat.le_of_ble_eq_true rfl) dX7_reckon_170 ⟨Nat.zero_le _, Nat.zero_le _⟩ (fun H locs hP hS => ?_)
                    refine lv_goto (tgt := 189) hx hb dX7_reckon_173 (by decide) ?_
                    exact g_vret hx hb hr hlocks hP hS dX7_reckon_189 hF
                  · have hF := (if_neg c10).symm.trans hF
                    have hok := Eq.mp (if_neg c10) hok
                    refine sw_def (tgt := 176) [0, 1, 2, 3, 4, 5] hx hb dX7_reckon_53 (List.forall_mem_cons.mpr ⟨c5, List.forall_mem_cons.mpr ⟨c6, List.forall_mem_cons.mpr ⟨c7, List.forall_mem_cons.mpr ⟨c8, List.forall_mem_cons.mpr ⟨c9, List.forall_mem_cons.mpr ⟨c10, fun _ h => absurd h List.not_mem_nil⟩⟩⟩⟩⟩⟩) (by decide) (by decide) ?_
                    refine lv_aload_n hx hb dX7_reckon_176 rfl (lv_at hl 1 rfl) ?_
                    refine lv_aload_n hx hb dX7_reckon_177 rfl (lv_at hl 1 rfl) ?_
                    refine ge_X7_s hx hb hg hown kf_X7_13 hK hP dX7_reckon_178 ?_
                    refine lv_bipush (v := 16) hx hb dX7_reckon_181 (by decide) ?_
                    refine mlc_s 16 (by decide) hx hb hK hP dX7_reckon_183 ?_
                    refine lv_iload_n hx hb dX7_reckon_184 rfl (lv_at hl 0 rfl) ?_
                    refine lv_iconst (v := 0) hx hb dX7_reckon_185 (by decide) ?_
                    refine g_Vv hx hb hml hown hg (c_X7_less l dC dI cI cZ x hi _ _ _ _) cs_X7_105 rfl rfl ⟨Nat.le_of_ble_eq_true rfl, Nat.le_of_ble_eq_true rfl⟩ hK hP hS (q0 := 0) rfl rfl rfl hl.1 rfl (Nat.le_of_ble_eq_true rfl) dX7_reckon_186 ⟨Nat.zero_le _, Nat.zero_le _⟩ (fun H locs hP hS => ?_)
                    exact g_vret hx hb hr hlocks hP hS dX7_reckon_189 hF
      · have hF := (if_neg c3).symm.trans hF
        have hok := Eq.mp (if_neg c3) hok
        refine lv_aload_n hx hb dX7_reckon_30 rfl (lv_at hl 0 rfl) ?_
        refine lv_aload_n hx hb dX7_reckon_31 rfl (lv_at hl 0 rfl) ?_
        refine ge_X7_s hx hb hg hown kf_X7_13 hK hP dX7_reckon_32 ?_
        refine lv_bipush (v := 19) hx hb dX7_reckon_35 (by decide) ?_
        refine mlc_s 19 (by decide) hx hb hK hP dX7_reckon_37 ?_
        obtain ⟨c11, hok⟩ := hok
        refine g_Vi hx hb hml hown hg (c_X7_m l dC dI cI cZ x hi _ _ c11) cs_X7_47 rfl rfl ⟨Nat.le_of_ble_eq_true rfl, Nat.le_of_ble_eq_true rfl⟩ hK hP hS (q0 := 0) rfl rfl rfl hl.1 rfl (Nat.le_of_ble_eq_true rfl) dX7_reckon_38 ⟨Nat.zero_le _, Nat.zero_le _⟩ (fun H locs hP hS => ?_)
        refine lv_goto (tgt := 48) hx hb dX7_reckon_41 (by decide) ?_
        refine lv_istore_n hx hb dX7_reckon_48 rfl hl (by decide) rfl (fun ls hl => ?_)
        have hl : lv_has ls 3 [(2, _), (0, _), (1, _)] := hl
        refine lv_iload_n hx hb dX7_reckon_49 rfl (lv_at hl 2 rfl) ?_
        refine lv_bipush (v := 7) hx hb dX7_reckon_50 (by decide) ?_
        refine lv_iand hx hb dX7_reckon_52 ?_
        refine sw_case (v := 0) (fun c12 => ?_) (fun c12 => ?_)
        · have hF := (if_pos c12).symm.trans hF
          have hok := Eq.mp (if_pos c12) hok
          refine sw_in (off := 39) (tgt := 92) 0 hx hb dX7_reckon_53 c12 (by decide) (by decide) ?_
          refine lv_aload_n hx hb dX7_reckon_92 rfl (lv_at hl 1 rfl) ?_
          refine ge_X7_s hx hb hg hown kf_X7_13 hK hP dX7_reckon_93 ?_
          refine lv_bipush (v := 16) hx hb dX7_reckon_96 (by decide) ?_
          refine lv_iload_n hx hb dX7_reckon_98 rfl (lv_at hl 0 rfl) ?_
          refine mac_s 16 (by decide) hi hx hb hK hP hS dX7_reckon_99 (fun H locs hP hS => ?_)
          refine lv_goto (tgt := 189) hx hb dX7_reckon_100 (by decide) ?_
          exact g_vret hx hb hr hlocks hP hS dX7_reckon_189 hF
        · have hF := (if_neg c12).symm.trans hF
          have hok := Eq.mp (if_neg c12) hok
          refine sw_case (v := 1) (fun c13 => ?_) (fun c13 => ?_)
          · have hF := (if_pos c13).symm.trans hF
            have hok := Eq.mp (if_pos c13) hok
            refine sw_in (off := 50) (tgt := 103) 1 hx hb dX7_reckon_53 c13 (by decide) (by decide) ?_
            refine lv_aload_n hx hb dX7_reckon_103 rfl (lv_at hl 1 rfl) ?_
            refine ge_X7_s hx hb hg hown kf_X7_13 hK hP dX7_reckon_104 ?_
            refine lv_bipush (v := 16) hx hb dX7_reckon_107 (by decide) ?_
            refine lv_dup2_11 hx hb dX7_reckon_109 rfl rfl ?_
            refine mlc_s 16 (by decide) hx hb hK hP dX7_reckon_110 ?_
            refine lv_iload_n hx hb dX7_reckon_111 rfl (lv_at hl 0 rfl) ?_
            refine lv_ior hx hb dX7_reckon_112 ?_
            refine mac_s 16 (by decide) hi hx hb hK hP hS dX7_reckon_113 (fun H locs hP hS => ?_)
            refine lv_goto (tgt := 189) hx hb dX7_reckon_114 (by decide) ?_
            exact g_vret hx hb hr hlocks hP hS dX7_reckon_189 hF
          · have hF := (if_neg c13).symm.trans hF
            have hok := Eq.mp (if_neg c13) hok
            refine sw_case (v := 2) (fun c14 => ?_) (fun c14 => ?_)
            · have hF := (if_pos c14).symm.trans hF
              have hok := Eq.mp (if_pos c14) hok
              refine sw_in (off := 64) (tgt := 117) 2 hx hb dX7_reckon_53 c14 (by decide) (by decide) ?_
              refine lv_aload_n hx hb dX7_reckon_117 rfl (lv_at hl 1 rfl) ?_
              refine ge_X7_s hx hb hg hown kf_X7_13 hK hP dX7_reckon_118 ?_
              refine lv_bipush (v := 16) hx hb dX7_reckon_121 (by decide) ?_
              refine lv_dup2_11 hx hb dX7_reckon_123 rfl rfl ?_
              refine mlc_s 16 (by decide) hx hb hK hP dX7_reckon_124 ?_
              refine lv_iload_n hx hb dX7_reckon_125 rfl (lv_at hl 0 rfl) ?_
              refine lv_iand hx hb dX7_reckon_126 ?_
              refine mac_s 16 (by decide) hi hx hb hK hP hS dX7_reckon_127 (fun H locs hP hS => ?_)
              refine lv_goto (tgt := 189) hx hb dX7_reckon_128 (by decide) ?_
              exact g_vret hx hb hr hlocks hP hS dX7_reckon_189 hF
            · have hF := (if_neg c14).symm.trans hF
              have hok := Eq.mp (if_neg c14) hok
              refine sw_case (v := 3) (fun c15 => ?_) (fun c15 => ?_)
              · have hF := (if_pos c15).symm.trans hF
                have hok := Eq.mp (if_pos c15) hok
                refine sw_in (off := 78) (tgt := 131) 3 hx hb dX7_reckon_53 c15 (by decide) (by decide) ?_
                refine lv_aload_n hx hb dX7_reckon_131 rfl (lv_at hl 1 rfl) ?_
                refine ge_X7_s hx hb hg hown kf_X7_13 hK hP dX7_reckon_132 ?_
                refine lv_bipush (v := 16) hx hb dX7_reckon_135 (by decide) ?_
                refine lv_dup2_11 hx hb dX7_reckon_137 rfl rfl ?_
                refine mlc_s 16 (by decide) hx hb hK hP dX7_reckon_138 ?_
                refine lv_iload_n hx hb dX7_reckon_139 rfl (lv_at hl 0 rfl) ?_
                refine lv_ixor hx hb dX7_reckon_140 ?_
                refine mac_s 16 (by decide) hi hx hb hK hP hS dX7_reckon_141 (fun H locs hP hS => ?_)
                refine lv_goto (tgt := 189) hx hb dX7_reckon_142 (by decide) ?_
                exact g_vret hx hb hr hlocks hP hS dX7_reckon_189 hF
              · have hF := (if_neg c15).symm.trans hF
                have hok := Eq.mp (if_neg c15) hok
                refine sw_case (v := 4) (fun c16 => ?_) (fun c16 => ?_)
                · have hF := (if_pos c16).symm.trans hF
                  have hok := Eq.mp (if_pos c16) hok
                  refine sw_in (off := 92) (tgt := 145) 4 hx hb dX7_reckon_53 c16 (by decide) (by decide) ?_
                  refine lv_aload_n hx hb dX7_reckon_145 rfl (lv_at hl 1 rfl) ?_
                  refine lv_iload_n hx hb dX7_reckon_146 rfl (lv_at hl 0 rfl) ?_
                  refine lv_aload_n hx hb dX7_reckon_147 rfl (lv_at hl 1 rfl) ?_
                  refine ge_X7_s hx hb hg hown kf_X7_13 hK hP dX7_reckon_148 ?_
                  refine lv_bipush (v := 16) hx hb dX7_reckon_151 (by decide) ?_
                  refine mlc_s 16 (by decide) hx hb hK hP dX7_reckon_153 ?_
                  refine g_Vv hx hb hml hown hg (c_X7_sum l dC dI cI cZ x hi _ _ _) cs_X7_109 rfl rfl ⟨Nat.le_of_ble_eq_true rfl, Nat.le_of_ble_eq_true rfl⟩ hK hP hS (q0 := 0) rfl rfl rfl hl.1 rfl (Nat.le_of_ble_eq_true rfl) dX7_reckon_154 ⟨Nat.zero_le _, Nat.zero_le _⟩ (fun H locs hP hS => ?_)
                  refine lv_goto (tgt := 189) hx hb dX7_reckon_157 (by decide) ?_
                  exact g_vret hx hb hr hlocks hP hS dX7_reckon_189 hF
                · have hF := (if_neg c16).symm.trans hF
                  have hok := Eq.mp (if_neg c16) hok
                  refine sw_case (v := 5) (fun c17 => ?_) (fun c17 => ?_)
                  · have hF := (if_pos c17).symm.trans hF
                    have hok := Eq.mp (if_pos c17) hok
                    refine sw_in (off := 107) (tgt := 160) 5 hx hb dX7_reckon_53 c17 (by decide) (by decide) ?_
                    refine lv_aload_n hx hb dX7_reckon_160 rfl (lv_at hl 1 rfl) ?_
                    refine lv_iload_n hx hb dX7_reckon_161 rfl (lv_at hl 0 rfl) ?_
                    refine lv_aload_n hx hb dX7_reckon_162 rfl (lv_at hl 1 rfl) ?_
                    refine ge_X7_s hx hb hg hown kf_X7_13 hK hP dX7_reckon_163 ?_
                    refine lv_bipush (v := 16) hx hb dX7_reckon_166 (by decide) ?_
                    refine mlc_s 16 (by decide) hx hb hK hP dX7_reckon_168 ?_
                    refine lv_iconst (v := 0) hx hb dX7_reckon_169 (by decide) ?_
                    refine g_Vv hx hb hml hown hg (c_X7_less l dC dI cI cZ x hi _ _ _ _) cs_X7_105 rfl rfl ⟨Nat.le_of_ble_eq_true rfl, Nat.le_of_ble_eq_true rfl⟩ hK hP hS (q0 := 0) rfl rfl rfl hl.1 rfl (Nat.le_of_ble_eq_true rfl) dX7_reckon_170 ⟨Nat.zero_le _, Nat.zero_le _⟩ (fun H locs hP hS => ?_)
                    refine lv_goto (tgt := 189) hx hb dX7_reckon_173 (by decide) ?_
                    exact g_vret hx hb hr hlocks hP hS dX7_reckon_189 hF
                  · have hF := (if_neg c17).symm.trans hF
                    have hok := Eq.mp (if_neg c17) hok
                    refine sw_def (tgt := 176) [0, 1, 2, 3, 4, 5] hx hb dX7_reckon_53 (List.forall_mem_cons.mpr ⟨c12, List.forall_mem_cons.mpr ⟨c13, List.forall_mem_cons.mpr ⟨c14, List.forall_mem_cons.mpr ⟨c15, List.forall_mem_cons.mpr ⟨c16, List.forall_mem_cons.mpr ⟨c17, fun _ h => absurd h List.not_mem_nil⟩⟩⟩⟩⟩⟩) (by decide) (by decide) ?_
                    refine lv_aload_n hx hb dX7_reckon_176 rfl (lv_at hl 1 rfl) ?_
                    refine lv_aload_n hx hb dX7_reckon_177 rfl (lv_at hl 1 rfl) ?_
                    refine ge_X7_s hx hb hg hown kf_X7_13 hK hP dX7_reckon_178 ?_
                    refine lv_bipush (v := 16) hx hb dX7_reckon_181 (by decide) ?_
                    refine mlc_s 16 (by decide) hx hb hK hP dX7_reckon_183 ?_
                    refine lv_iload_n hx hb dX7_reckon_184 rfl (lv_at hl 0 rfl) ?_
                    refine lv_iconst (v := 0) hx hb dX7_reckon_185 (by decide) ?_
                    refine g_Vv hx hb hml hown hg (c_X7_less l dC dI cI cZ x hi _ _ _ _) cs_X7_105 rfl rfl ⟨Nat.le_of_ble_eq_true rfl, Nat.le_of_ble_eq_true rfl⟩ hK hP hS (q0 := 0) rfl rfl rfl hl.1 rfl (Nat.le_of_ble_eq_true rfl) dX7_reckon_186 ⟨Nat.zero_le _, Nat.zero_le _⟩ (fun H locs hP hS => ?_)
                    exact g_vret hx hb hr hlocks hP hS dX7_reckon_189 hF
    · have hF := (if_pos c2).symm.trans hF
      have hok := Eq.mp (if_pos c2) hok
      refine lv_aload_n hx hb dX7_reckon_18 rfl (lv_at hl 0 rfl) ?_
      refine lv_iconst (v := 0) hx hb dX7_reckon_19 (by decide) ?_
      refine g_Vv hx hb hml hown hg (c_X7_left l dC dI cI cZ x hi _ _) cs_X7_92 rfl rfl ⟨Nat.le_of_ble_eq_true rfl, Nat.le_of_ble_eq_true rfl⟩ hK hP hS (q0 := 0) rfl rfl rfl hl.1 rfl (Nat.le_of_ble_eq_true rfl) dX7_reckon_20 ⟨Nat.zero_le _, Nat.zero_le _⟩ (fun H locs hP hS => ?_)
      exact g_vret hx hb hr hlocks hP hS dX7_reckon_23 hF
  · have hF := (if_pos c1).symm.trans hF
    have hok := Eq.mp (if_pos c1) hok
    refine lv_aload_n hx hb dX7_reckon_6 rfl (lv_at hl 0 rfl) ?_
    refine lv_iconst (v := 0) hx hb dX7_reckon_7 (by decide) ?_
    refine g_Vv hx hb hml hown hg (c_X7_right l dC dI cI cZ x hi _ _) cs_X7_86 rfl rfl ⟨Nat.le_of_ble_eq_true rfl, Nat.le_of_ble_eq_true rfl⟩ hK hP hS (q0 := 0) rfl rfl rfl hl.1 rfl (Nat.le_of_ble_eq_true rfl) dX7_reckon_8 ⟨Nat.zero_le _, Nat.zero_le _⟩ (fun H locs hP hS => ?_)
    exact g_vret hx hb hr hlocks hP hS dX7_reckon_11 hF
def f_X7_moves (u : MS) (p0 : Int32) (p1 : Int32) : MS :=
  if p0 = 1 then
    let r1 : MS := f_X7_grow u p1 1
    r1
  else
    if p0 = 2 then
      let r2 : MS := f_X7_grow u p1 (-1)
      r2
    else
      if p0 = 5 then
        let r3 : MS := f_X7_store u (mq_s u (p1).toNatClampNeg) (mq_s u 16)
        r3
      else
        if p0 = 8 then
          let u4 : MS := ms_s u (upd (mq_s u) 16 ((mq_s u (p1).toNatClampNeg) &&& 255))
          u4
        else
          if p0 = 9 then
            let u5 : MS := ms_s u (upd (mq_s u) 16 ((mq_s u (p1).toNatClampNeg) >>> ((8 : Int32) &&& 31)))
            u5
          else
            if p0 = 10 then
              let r6 : MS := f_X7_low u p1 (mq_s u 16)
              r6
            else
              if p0 = 11 then
                let u7 : MS := ms_s u (upd (mq_s u) (p1).toNatClampNeg (((mq_s u 16) <<< ((8 : Int32) &&& 31)) ||| ((mq_s u (p1).toNatClampNeg) &&& 255)))
                u7
              else
                if p0 = 13 then
                  let u8 : MS := ms_s u (upd (mq_s u) 18 p1)
                  u8
                else
                  if p0 = 14 then
                    let u9 : MS := ms_s u (upd (mq_s u) 19 p1)
                    u9
                  else
                    let u10 : MS := ms_s u (upd (mq_s u) 16 (f_X7_m u p1))
                    if p0 = 4 then
                      let r11 : MS := f_X7_grow u10 p1 1
                      r11
                    else
                      u10
def ok_X7_moves (u : MS) (p0 : Int32) (p1 : Int32) : Prop :=
  if p0 = 1 then
    ok_X7_grow u p1 1 ∧
    let r1 : MS := f_X7_grow u p1 1
    True
  else
    if p0 = 2 then
      ok_X7_grow u p1 (-1) ∧
      let r2 : MS := f_X7_grow u p1 (-1)
      True
    else
      if p0 = 5 then
        vp_in p1 24 ∧
        let r3 : MS := f_X7_store u (mq_s u (p1).toNatClampNeg) (mq_s u 16)
        True
      else
        if p0 = 8 then
          vp_in p1 24 ∧
          let u4 : MS := ms_s u (upd (mq_s u) 16 ((mq_s u (p1).toNatClampNeg) &&& 255))
          True
        else
          if p0 = 9 then
            vp_in p1 24 ∧
            let u5 : MS := ms_s u (upd (mq_s u) 16 ((mq_s u (p1).toNatClampNeg) >>> ((8 : Int32) &&& 31)))
            True
          else
            if p0 = 10 then
              ok_X7_low u p1 (mq_s u 16) ∧
              let r6 : MS := f_X7_low u p1 (mq_s u 16)
              True
            else
              if p0 = 11 then
                vp_in p1 24 ∧
                vp_in p1 24 ∧
                let u7 : MS := ms_s u (upd (mq_s u) (p1).toNatClampNeg (((mq_s u 16) <<< ((8 : Int32) &&& 31)) ||| ((mq_s u (p1).toNatClampNeg) &&& 255)))
                True
              else
                if p0 = 13 then
                  let u8 : MS := ms_s u (upd (mq_s u) 18 p1)
                  True
                else
                  if p0 = 14 then
                    let u9 : MS := ms_s u (upd (mq_s u) 19 p1)
                    True
                  else
                    ok_X7_m u p1 ∧
                    let u10 : MS := ms_s u (upd (mq_s u) 16 (f_X7_m u p1))
                    if p0 = 4 then
                      ok_X7_grow u10 p1 1 ∧
                      let r11 : MS := f_X7_grow u10 p1 1
                      True
                    else
                      True
set_option maxHeartbeats 4000000 in
set_option maxRecDepth 100000 in
theorem c_X7_moves (l : Launch) (dC : Nat → ClassId) (dI : Nat → Nat → Nat) (cI cZ : ClassId) (x : Nat → Nat) (hi : g_inj 7 x) (u : MS) (p0 : Int32) (p1 : Int32) (hok : ok_X7_moves u p0 p1) : g_Mv l yX7_moves (.code yX7_moves cX7_moves 3 none) { frames := 2, cells := 0, slots := 0, locals := 42 } (dC, dI) vwCl (tysW cI cZ) (wM x cI cZ) (g_bA 7 x) u [.ref (x 0), .int p0, .int p1] (f_X7_moves u p0 p1) := by
  refine Met.ofW (cc := cX7_moves) (maxL := 3) (ret := none) (by decide) rfl ?_
  intro p e s m args below meth c s₁ B hml hv
  obtain ⟨rfl, hP, hK⟩ := hv
  have hx := B.exec
  have hb := B.bytes
  have hr := B.returns
  have hts := atoms_spec (ws := .code yX7_moves cX7_moves 3 none :: gtbl) B.pre
  have hg : ∀ w ∈ gtbl, w.before _ s = true := fun w h => hts w (List.mem_cons_of_mem _ h)
  have hown : s.vm.findClass RX7 = some m.cls := findClass_of_methodNamed B.named
  have hlocks := B.notSynchronized
  have hS : va_S (g_bA 7 x) s.heap s.heap [] := va_S.rf
  have hl := lv_entry ([.ref (x 0), .int p0, .int p1]) (n := 3) (Nat.le_of_ble_eq_true rfl)
  rw [lg_entry_eq]
  generalize (lg_sl ([.ref (x 0), .int p0, .int p1]) ++ List.replicate (3 - (lg_sl ([.ref (x 0), .int p0, .int p1])).length) Slot.unset).toArray = ls at hl ⊢
  have hl : lv_has ls 3 [(0, .ref (x 0)), (1, .int p0), (2, .int p1)] := hl
  obtain ⟨F, hF⟩ : ∃ F, f_X7_moves u p0 p1 = F := ⟨_, rfl⟩
  rw [hF]
  refine lv_iload_n hx hb dX7_moves_0 rfl (lv_at hl 1 rfl) ?_
  refine sw_case (v := 1) (fun c1 => ?_) (fun c1 => ?_)
  · have hF := (if_pos c1).symm.trans hF
    have hok := Eq.mp (if_pos c1) hok
    refine sw_in (off := 71) (tgt := 72) 1 hx hb dX7_moves_1 c1 (by decide) (by decide) ?_
    refine lv_aload_n hx hb dX7_moves_72 rfl (lv_at hl 0 rfl) ?_
    refine lv_iload_n hx hb dX7_moves_73 rfl (lv_at hl 2 rfl) ?_
    refine lv_iconst (v := 1) hx hb dX7_moves_74 (by decide) ?_
    obtain ⟨c2, hok⟩ := hok
    refine g_Vv hx hb hml hown hg (c_X7_grow l dC dI cI cZ x hi _ _ _ c2) cs_X7_50 rfl rfl ⟨Nat.le_of_ble_eq_true rfl, Nat.le_of_ble_eq_true rfl⟩ hK hP hS (q0 := 0) rfl rfl rfl hl.1 rfl (Nat.le_of_ble_eq_true rfl) dX7_moves_75 ⟨Nat.zero_le _, Nat.zero_le _⟩ (fun H locs hP hS => ?_)
    refine lv_goto (tgt := 239) hx hb dX7_moves_78 (by decide) ?_
    exact g_vret hx hb hr hlocks hP hS dX7_moves_239 hF
  · have hF := (if_neg c1).symm.trans hF
    have hok := Eq.mp (if_neg c1) hok
    refine sw_case (v := 2) (fun c3 => ?_) (fun c3 => ?_)
    · have hF := (if_pos c3).symm.trans hF
      have hok := Eq.mp (if_pos c3) hok
      refine sw_in (off := 80) (tgt := 81) 2 hx hb dX7_moves_1 c3 (by decide) (by decide) ?_
      refine lv_aload_n hx hb dX7_moves_81 rfl (lv_at hl 0 rfl) ?_
      refine lv_iload_n hx hb dX7_moves_82 rfl (lv_at hl 2 rfl) ?_
      refine lv_iconst (v := (-1)) hx hb dX7_moves_83 (by decide) ?_
      obtain ⟨c4, hok⟩ := hok
      refine g_Vv hx hb hml hown hg (c_X7_grow l dC dI cI cZ x hi _ _ _ c4) cs_X7_50 rfl rfl ⟨Nat.le_of_ble_eq_true rfl, Nat.le_of_ble_eq_true rfl⟩ hK hP hS (q0 := 0) rfl rfl rfl hl.1 rfl (Nat.le_of_ble_eq_true rfl) dX7_moves_84 ⟨Nat.zero_le _, Nat.zero_le _⟩ (fun H locs hP hS => ?_)
      refine lv_goto (tgt := 239) hx hb dX7_moves_87 (by decide) ?_
      exact g_vret hx hb hr hlocks hP hS dX7_moves_239 hF
    · have hF := (if_neg c3).symm.trans hF
      have hok := Eq.mp (if_neg c3) hok
      refine sw_case (v := 5) (fun c5 => ?_) (fun c5 => ?_)
      · have hF := (if_pos c5).symm.trans hF
        have hok := Eq.mp (if_pos c5) hok
        refine sw_in (off := 89) (tgt := 90) 5 hx hb dX7_moves_1 c5 (by decide) (by decide) ?_
        refine lv_aload_n hx hb dX7_moves_90 rfl (lv_at hl 0 rfl) ?_
        refine lv_aload_n hx hb dX7_moves_91 rfl (lv_at hl 0 rfl) ?_
        refine ge_X7_s hx hb hg hown kf_X7_13 hK hP dX7_moves_92 ?_
        refine lv_iload_n hx hb dX7_moves_95 rfl (lv_at hl 2 rfl) ?_
        obtain ⟨c6, hok⟩ := hok
        refine ml_s hx hb hK hP c6 dX7_moves_96 ?_
        refine lv_aload_n hx hb dX7_moves_97 rfl (lv_at hl 0 rfl) ?_
        refine ge_X7_s hx hb hg hown kf_X7_13 hK hP dX7_moves_98 ?_
        refine lv_bipush (v := 16) hx hb dX7_moves_101 (by decide) ?_
        refine mlc_s 16 (by decide) hx hb hK hP dX7_moves_103 ?_
        refine g_Vv hx hb hml hown hg (c_X7_store l dC dI cI cZ x hi _ _ _) cs_X7_79 rfl rfl ⟨Nat.le_of_ble_eq_true rfl, Nat.le_of_ble_eq_true rfl⟩ hK hP hS (q0 := 0) rfl rfl rfl hl.1 rfl (Nat.le_of_ble_eq_true rfl) dX7_moves_104 ⟨Nat.zero_le _, Nat.zero_le _⟩ (fun H locs hP hS => ?_)
        refine lv_goto (tgt := 239) hx hb dX7_moves_107 (by decide) ?_
        exact g_vret hx hb hr hlocks hP hS dX7_moves_239 hF
      · have hF := (if_neg c5).symm.trans hF
        have hok := Eq.mp (if_neg c5) hok
        refine sw_case (v := 8) (fun c7 => ?_) (fun c7 => ?_)
        · have hF := (if_pos c7).symm.trans hF
          have hok := Eq.mp (if_pos c7) hok
          refine sw_in (off := 109) (tgt := 110) 8 hx hb dX7_moves_1 c7 (by decide) (by decide) ?_
          refine lv_aload_n hx hb dX7_moves_110 rfl (lv_at hl 0 rfl) ?_
          refine ge_X7_s hx hb hg hown kf_X7_13 hK hP dX7_moves_111 ?_
          refine lv_bipush (v := 16) hx hb dX7_moves_114 (by decide) ?_
          refine lv_aload_n hx hb dX7_moves_116 rfl (lv_at hl 0 rfl) ?_
          refine ge_X7_s hx hb hg hown kf_X7_13 hK hP dX7_moves_117 ?_
          refine lv_iload_n hx hb dX7_moves_120 rfl (lv_at hl 2 rfl) ?_
          obtain ⟨c8, hok⟩ := hok
          refine ml_s hx hb hK hP c8 dX7_moves_121 ?_
          refine lv_sipush (v := 255) hx hb dX7_moves_122 (by decide) ?_
          refine lv_iand hx hb dX7_moves_125 ?_
          refine mac_s 16 (by decide) hi hx hb hK hP hS dX7_moves_126 (fun H locs hP hS => ?_)
          refine lv_goto (tgt := 239) hx hb dX7_moves_127 (by decide) ?_
          exact g_vret hx hb hr hlocks hP hS dX7_moves_239 hF
        · have hF := (if_neg c7).symm.trans hF
          have hok := Eq.mp (if_neg c7) hok
          refine sw_case (v := 9) (fun c9 => ?_) (fun c9 => ?_)
          · have hF := (if_pos c9).symm.trans hF
            have hok := Eq.mp (if_pos c9) hok
            refine sw_in (off := 129) (tgt := 130) 9 hx hb dX7_moves_1 c9 (by decide) (by decide) ?_
            refine lv_aload_n hx hb dX7_moves_130 rfl (lv_at hl 0 rfl) ?_
            refine ge_X7_s hx hb hg hown kf_X7_13 hK hP dX7_moves_131 ?_
            refine lv_bipush (v := 16) hx hb dX7_moves_134 (by decide) ?_
            refine lv_aload_n hx hb dX7_moves_136 rfl (lv_at hl 0 rfl) ?_
            refine ge_X7_s hx hb hg hown kf_X7_13 hK hP dX7_moves_137 ?_
            refine lv_iload_n hx hb dX7_moves_140 rfl (lv_at hl 2 rfl) ?_
            obtain ⟨c10, hok⟩ := hok
            refine ml_s hx hb hK hP c10 dX7_moves_141 ?_
            refine lv_bipush (v := 8) hx hb dX7_moves_142 (by decide) ?_
            refine lv_ishr hx hb dX7_moves_144 ?_
            refine mac_s 16 (by decide) hi hx hb hK hP hS dX7_moves_145 (fun H locs hP hS => ?_)
            refine lv_goto (tgt := 239) hx hb dX7_moves_146 (by decide) ?_
            exact g_vret hx hb hr hlocks hP hS dX7_moves_239 hF
          · have hF := (if_neg c9).symm.trans hF
            have hok := Eq.mp (if_neg c9) hok
            refine sw_case (v := 10) (fun c11 => ?_) (fun c11 => ?_)
            · have hF := (if_pos c11).symm.trans hF
              have hok := Eq.mp (if_pos c11) hok
              refine sw_in (off := 148) (tgt := 149) 10 hx hb dX7_moves_1 c11 (by decide) (by decide) ?_
              refine lv_aload_n hx hb dX7_moves_149 rfl (lv_at hl 0 rfl) ?_
              refine lv_iload_n hx hb dX7_moves_150 rfl (lv_at hl 2 rfl) ?_
              refine lv_aload_n hx hb dX7_moves_151 rfl (lv_at hl 0 rfl) ?_
              refine ge_X7_s hx hb hg hown kf_X7_13 hK hP dX7_moves_152 ?_
              refine lv_bipush (v := 16) hx hb dX7_moves_155 (by decide) ?_
              refine mlc_s 16 (by decide) hx hb hK hP dX7_moves_157 ?_
              obtain ⟨c12, hok⟩ := hok
              refine g_Vv hx hb hml hown hg (c_X7_low l dC dI cI cZ x hi _ _ _ c12) cs_X7_73 rfl rfl ⟨Nat.le_of_ble_eq_true rfl, Nat.le_of_ble_eq_true rfl⟩ hK hP hS (q0 := 0) rfl rfl rfl hl.1 rfl (Nat.le_of_ble_eq_true rfl) dX7_moves_158 ⟨Nat.zero_le _, Nat.zero_le _⟩ (fun H locs hP hS => ?_)
              refine lv_goto (tgt := 239) hx hb dX7_moves_161 (by decide) ?_
              exact g_vret hx hb hr hlocks hP hS dX7_moves_239 hF
            · have hF := (if_neg c11).symm.trans hF
              have hok := Eq.mp (if_neg c11) hok
              refine sw_case (v := 11) (fun c13 => ?_) (fun c13 => ?_)
              · have hF := (if_pos c13).symm.trans hF
                have hok := Eq.mp (if_pos c13) hok
                refine sw_in (off := 163) (tgt := 164) 11 hx hb dX7_moves_1 c13 (by decide) (by decide) ?_
                refine lv_aload_n hx hb dX7_moves_164 rfl (lv_at hl 0 rfl) ?_
                refine ge_X7_s hx hb hg hown kf_X7_13 hK hP dX7_moves_165 ?_
                refine lv_iload_n hx hb dX7_moves_168 rfl (lv_at hl 2 rfl) ?_
                refine lv_aload_n hx hb dX7_moves_169 rfl (lv_at hl 0 rfl) ?_
                refine ge_X7_s hx hb hg hown kf_X7_13 hK hP dX7_moves_170 ?_
                refine lv_bipush (v := 16) hx hb dX7_moves_173 (by decide) ?_
                refine mlc_s 16 (by decide) hx hb hK hP dX7_moves_175 ?_
                refine lv_bipush (v := 8) hx hb dX7_moves_176 (by decide) ?_
                refine lv_ishl hx hb dX7_moves_178 ?_
                refine lv_aload_n hx hb dX7_moves_179 rfl (lv_at hl 0 rfl) ?_
                refine ge_X7_s hx hb hg hown kf_X7_13 hK hP dX7_moves_180 ?_
                refine lv_iload_n hx hb dX7_moves_183 rfl (lv_at hl 2 rfl) ?_
                obtain ⟨c14, hok⟩ := hok
                refine ml_s hx hb hK hP c14 dX7_moves_184 ?_
                refine lv_sipush (v := 255) hx hb dX7_moves_185 (by decide) ?_
                refine lv_iand hx hb dX7_moves_188 ?_
                refine lv_ior hx hb dX7_moves_189 ?_
                obtain ⟨c15, hok⟩ := hok
                refine ma_s hi hx hb hK hP hS c15 dX7_moves_190 (fun H locs hP hS => ?_)
                refine lv_goto (tgt := 239) hx hb dX7_moves_191 (by decide) ?_
                exact g_vret hx hb hr hlocks hP hS dX7_moves_239 hF
              · have hF := (if_neg c13).symm.trans hF
                have hok := Eq.mp (if_neg c13) hok
                refine sw_case (v := 13) (fun c16 => ?_) (fun c16 => ?_)
                · have hF := (if_pos c16).symm.trans hF
                  have hok := Eq.mp (if_pos c16) hok
                  refine sw_in (off := 193) (tgt := 194) 13 hx hb dX7_moves_1 c16 (by decide) (by decide) ?_
                  refine lv_aload_n hx hb dX7_moves_194 rfl (lv_at hl 0 rfl) ?_
                  refine ge_X7_s hx hb hg hown kf_X7_13 hK hP dX7_moves_195 ?_
                  refine lv_bipush (v := 18) hx hb dX7_moves_198 (by decide) ?_
                  refine lv_iload_n hx hb dX7_moves_200 rfl (lv_at hl 2 rfl) ?_
                  refine mac_s 18 (by decide) hi hx hb hK hP hS dX7_moves_201 (fun H locs hP hS => ?_)
                  refine lv_goto (tgt := 239) hx hb dX7_moves_202 (by decide) ?_
                  exact g_vret hx hb hr hlocks hP hS dX7_moves_239 hF
                · have hF := (if_neg c16).symm.trans hF
                  have hok := Eq.mp (if_neg c16) hok
                  refine sw_case (v := 14) (fun c17 => ?_) (fun c17 => ?_)
                  · have hF := (if_pos c17).symm.trans hF
                    have hok := Eq.mp (if_pos c17) hok
                    refine sw_in (off := 204) (tgt := 205) 14 hx hb dX7_moves_1 c17 (by decide) (by decide) ?_
                    refine lv_aload_n hx hb dX7_moves_205 rfl (lv_at hl 0 rfl) ?_
                    refine ge_X7_s hx hb hg hown kf_X7_13 hK hP dX7_moves_206 ?_
                    refine lv_bipush (v := 19) hx hb dX7_moves_209 (by decide) ?_
                    refine lv_iload_n hx hb dX7_moves_211 rfl (lv_at hl 2 rfl) ?_
                    refine mac_s 19 (by decide) hi hx hb hK hP hS dX7_moves_212 (fun H locs hP hS => ?_)
                    refine lv_goto (tgt := 239) hx hb dX7_moves_213 (by decide) ?_
                    exact g_vret hx hb hr hlocks hP hS dX7_moves_239 hF
                  · have hF := (if_neg c17).symm.trans hF
                    have hok := Eq.mp (if_neg c17) hok
                    refine sw_def (tgt := 216) [1, 2, 5, 8, 9, 10, 11, 13, 14] hx hb dX7_moves_1 (List.forall_mem_cons.mpr ⟨c1, List.forall_mem_cons.mpr ⟨c3, List.forall_mem_cons.mpr ⟨c5, List.forall_mem_cons.mpr ⟨c7, List.forall_mem_cons.mpr ⟨c9, List.forall_mem_cons.mpr ⟨c11, List.forall_mem_cons.mpr ⟨c13, List.forall_mem_cons.mpr ⟨c16, List.forall_mem_cons.mpr ⟨c17, fun _ h => absurd h List.not_mem_nil⟩⟩⟩⟩⟩⟩⟩⟩⟩) (by decide) (by decide) ?_
                    refine lv_aload_n hx hb dX7_moves_216 rfl (lv_at hl 0 rfl) ?_
                    refine ge_X7_s hx hb hg hown kf_X7_13 hK hP dX7_moves_217 ?_
                    refine lv_bipush (v := 16) hx hb dX7_moves_220 (by decide) ?_
                    refine lv_aload_n hx hb dX7_moves_222 rfl (lv_at hl 0 rfl) ?_
                    refine lv_iload_n hx hb dX7_moves_223 rfl (lv_at hl 2 rfl) ?_
                    obtain ⟨c18, hok⟩ := hok
                    refine g_Vi hx hb hml hown hg (c_X7_m l dC dI cI cZ x hi _ _ c18) cs_X7_47 rfl rfl ⟨Nat.le_of_ble_eq_true rfl, Nat.le_of_ble_eq_true rfl⟩ hK hP hS (q0 := 0) rfl rfl rfl hl.1 rfl (Nat.le_of_ble_eq_true rfl) dX7_moves_224 ⟨Nat.zero_le _, Nat.zero_le _⟩ (fun H locs hP hS => ?_)
                    refine mac_s 16 (by decide) hi hx hb hK hP hS dX7_moves_227 (fun H locs hP hS => ?_)
                    refine lv_iload_n hx hb dX7_moves_228 rfl (lv_at hl 1 rfl) ?_
                    refine lv_iconst (v := 4) hx hb dX7_moves_229 (by decide) ?_
                    refine lv_icmp_ne (tgt := 239) hx hb dX7_moves_230 (by decide) (fun c19 => ?_) (fun c19 => ?_)
                    · have hF := (if_neg c19).symm.trans hF
                      have hok := Eq.mp (if_neg c19) hok
                      exact g_vret hx hb hr hlocks hP hS dX7_moves_239 hF
                    · have hF := (if_pos c19).symm.trans hF
                      have hok := Eq.mp (if_pos c19) hok
                      refine lv_aload_n hx hb dX7_moves_233 rfl (lv_at hl 0 rfl) ?_
                      refine lv_iload_n hx hb dX7_moves_234 rfl (lv_at hl 2 rfl) ?_
                      refine lv_iconst (v := 1) hx hb dX7_moves_235 (by decide) ?_
                      obtain ⟨c20, hok⟩ := hok
                      refine g_Vv hx hb hml hown hg (c_X7_grow l dC dI cI cZ x hi _ _ _ c20) cs_X7_50 rfl rfl ⟨Nat.le_of_ble_eq_true rfl, Nat.le_of_ble_eq_true rfl⟩ hK hP hS (q0 := 0) rfl rfl rfl hl.1 rfl (Nat.le_of_ble_eq_true rfl) dX7_moves_236 ⟨Nat.zero_le _, Nat.zero_le _⟩ (fun H locs hP hS => ?_)
                      exact g_vret hx hb hr hlocks hP hS dX7_moves_239 hF
def f_X7_instruction (u : MS) : Int32 × MS :=
  if (mq_s u 23) = 1 then
    (1, u)
  else
    let r1 : Int32 × MS := f_X7_next u
    let t2 : Int32 := r1.1
    let t3 : Int32 := (t2 >>> ((4 : Int32) &&& 31))
    let t4 : Int32 := (t2 &&& 15)
    if t2 = 0 then
      let u5 : MS := ms_s r1.2 (upd (mq_s r1.2) 23 1)
      if t3 = 12 then
        (3, u5)
      else
        (2, u5)
    else
      if t3 = 3 then
        let r6 : MS := f_X7_branch r1.2 t4
        (2, r6)
      else
        if t3 = 6 then
          if t4 = 0 then
            let r7 : MS := f_X7_grow r1.2 (mq_s r1.2 19) 1
            (2, r7)
          else
            let r8 : MS := f_X7_port r1.2 t4
            (2, r8)
        else
          if t3 = 7 then
            let r9 : MS := f_X7_seven r1.2 t4
            (2, r9)
          else
            if t3 = 12 then
              let r10 : MS := f_X7_wide r1.2 t4
              (3, r10)
            else
              if t3 = 15 then
                let r11 : MS := f_X7_reckon r1.2 t4
                (2, r11)
              else
                let r12 : MS := f_X7_moves r1.2 t3 t4
                (2, r12)
def ok_X7_instruction (u : MS) : Prop :=
  if (mq_s u 23) = 1 then
    True
  else
    ok_X7_next u ∧
    let r1 : Int32 × MS := f_X7_next u
    let t2 : Int32 := r1.1
    let t3 : Int32 := (t2 >>> ((4 : Int32) &&& 31))
    let t4 : Int32 := (t2 &&& 15)
    if t2 = 0 then
      let u5 : MS := ms_s r1.2 (upd (mq_s r1.2) 23 1)
      if t3 = 12 then
        True
      else
        True
    else
      if t3 = 3 then
        ok_X7_branch r1.2 t4 ∧
        let r6 : MS := f_X7_branch r1.2 t4
        True
      else
        if t3 = 6 then
          if t4 = 0 then
            ok_X7_grow r1.2 (mq_s r1.2 19) 1 ∧
            let r7 : MS := f_X7_grow r1.2 (mq_s r1.2 19) 1
            True
          else
            ok_X7_port r1.2 t4 ∧
            let r8 : MS := f_X7_port r1.2 t4
            True
        else
          if t3 = 7 then
            ok_X7_seven r1.2 t4 ∧
            let r9 : MS := f_X7_seven r1.2 t4
            True
          else
            if t3 = 12 then
              ok_X7_wide r1.2 t4 ∧
              let r10 : MS := f_X7_wide r1.2 t4
              True
            else
              if t3 = 15 then
                ok_X7_reckon r1.2 t4 ∧
                let r11 : MS := f_X7_reckon r1.2 t4
                True
              else
                ok_X7_moves r1.2 t3 t4 ∧
                let r12 : MS := f_X7_moves r1.2 t3 t4
                True
set_option maxHeartbeats 4000000 in
set_option maxRecDepth 100000 in
theorem c_X7_instruction (l : Launch) (dC : Nat → ClassId) (dI : Nat → Nat → Nat) (cI cZ : ClassId) (x : Nat → Nat) (hi : g_inj 7 x) (u : MS) (hok : ok_X7_instruction u) : g_Mi l yX7_instruction (.code yX7_instruction cX7_instruction 4 (some .int)) { frames := 4, cells := 0, slots := 0, locals := 85 } (dC, dI) vwCl (tysW cI cZ) (wM x cI cZ) (g_bA 7 x) u [.ref (x 0)] (f_X7_instruction u).1 (f_X7_instruction u).2 := by
  refine Met.ofW (cc := cX7_instruction) (maxL := 4) (ret := (some .int)) (by decide) rfl ?_
  intro p e s m args below meth c s₁ B hml hv
  obtain ⟨rfl, hP, hK⟩ := hv
  have hx := B.exec
  have hb := B.bytes
  have hr := B.returns
  have hts := atoms_spec (ws := .code yX7_instruction cX7_instruction 4 (some .int) :: gtbl) B.pre
  have hg : ∀ w ∈ gtbl, w.before _ s = true := fun w h => hts w (List.mem_cons_of_mem _ h)
  have hown : s.vm.findClass RX7 = some m.cls := findClass_of_methodNamed B.named
  have hlocks := B.notSynchronized
  have hS : va_S (g_bA 7 x) s.heap s.heap [] := va_S.rf
  have hl := lv_entry ([.ref (x 0)]) (n := 4) (Nat.le_of_ble_eq_true rfl)
  rw [lg_entry_eq]
  generalize (lg_sl ([.ref (x 0)]) ++ List.replicate (4 - (lg_sl ([.ref (x 0)])).length) Slot.unset).toArray = ls at hl ⊢
  have hl : lv_has ls 4 [(0, .ref (x 0))] := hl
  obtain ⟨F, hF⟩ : ∃ F, f_X7_instruction u = F := ⟨_, rfl⟩
  rw [hF]
  refine lv_aload_n hx hb dX7_instruction_0 rfl (lv_at hl 0 rfl) ?_
  refine ge_X7_s hx hb hg hown kf_X7_13 hK hP dX7_instruction_1 ?_
  refine lv_bipush (v := 23) hx hb dX7_instruction_4 (by decide) ?_
  refine mlc_s 23 (by decide) hx hb hK hP dX7_instruction_6 ?_
  refine lv_iconst (v := 1) hx hb dX7_instruction_7 (by decide) ?_
  refine lv_icmp_ne (tgt := 13) hx hb dX7_instruction_8 (by decide) (fun c1 => ?_) (fun c1 => ?_)
  · have hF := (if_neg c1).symm.trans hF
    have hok := Eq.mp (if_neg c1) hok
    refine lv_aload_n hx hb dX7_instruction_13 rfl (lv_at hl 0 rfl) ?_
    obtain ⟨c2, hok⟩ := hok
    refine g_Vi hx hb hml hown hg (c_X7_next l dC dI cI cZ x hi _ c2) cs_X7_95 rfl rfl ⟨Nat.le_of_ble_eq_true rfl, Nat.le_of_ble_eq_true rfl⟩ hK hP hS (q0 := 0) rfl rfl rfl hl.1 rfl (Nat.le_of_ble_eq_true rfl) dX7_instruction_14 ⟨Nat.zero_le _, Nat.zero_le _⟩ (fun H locs hP hS => ?_)
    refine lv_istore_n hx hb dX7_instruction_17 rfl hl (by decide) rfl (fun ls hl => ?_)
    have hl : lv_has ls 4 [(1, _), (0, _)] := hl
    refine lv_iload_n hx hb dX7_instruction_18 rfl (lv_at hl 0 rfl) ?_
    refine lv_iconst (v := 4) hx hb dX7_instruction_19 (by decide) ?_
    refine lv_ishr hx hb dX7_instruction_20 ?_
    refine lv_istore_n hx hb dX7_instruction_21 rfl hl (by decide) rfl (fun ls hl => ?_)
    have hl : lv_has ls 4 [(2, _), (1, _), (0, _)] := hl
    refine lv_iload_n hx hb dX7_instruction_22 rfl (lv_at hl 1 rfl) ?_
    refine lv_bipush (v := 15) hx hb dX7_instruction_23 (by decide) ?_
    refine lv_iand hx hb dX7_instruction_25 ?_
    refine lv_istore_n hx hb dX7_instruction_26 rfl hl (by decide) rfl (fun ls hl => ?_)
    have hl : lv_has ls 4 [(3, _), (2, _), (1, _), (0, _)] := hl
    refine lv_iload_n hx hb dX7_instruction_27 rfl (lv_at hl 2 rfl) ?_
    refine lv_if_ne (tgt := 42) hx hb dX7_instruction_28 (by decide) (fun c3 => ?_) (fun c3 => ?_)
    · have hF := (if_neg c3).symm.trans hF
      have hok := Eq.mp (if_neg c3) hok
      refine lv_iload_n hx hb dX7_instruction_42 rfl (lv_at hl 1 rfl) ?_
      refine lv_iconst (v := 3) hx hb dX7_instruction_43 (by decide) ?_
      refine lv_icmp_ne (tgt := 55) hx hb dX7_instruction_44 (by decide) (fun c5 => ?_) (fun c5 => ?_)
      · have hF := (if_neg c5).symm.trans hF
        have hok := Eq.mp (if_neg c5) hok
        refine lv_iload_n hx hb dX7_instruction_55 rfl (lv_at hl 1 rfl) ?_
        refine lv_bipush (v := 6) hx hb dX7_instruction_56 (by decide) ?_
        refine lv_icmp_ne (tgt := 80) hx hb dX7_instruction_58 (by decide) (fun c8 => ?_) (fun c8 => ?_)
        · have hF := (if_neg c8).symm.trans hF
          have hok := Eq.mp (if_neg c8) hok
          refine lv_iload_n hx hb dX7_instruction_80 rfl (lv_at hl 1 rfl) ?_
          refine lv_bipush (v := 6) hx hb dX7_instruction_81 (by decide) ?_
          refine lv_icmp_ne (tgt := 94) hx hb dX7_instruction_83 (by decide) (fun c15 => ?_) (fun c15 => ?_)
          · refine lv_iload_n hx hb dX7_instruction_94 rfl (lv_at hl 1 rfl) ?_
            refine lv_bipush (v := 7) hx hb dX7_instruction_95 (by decide) ?_
            refine lv_icmp_ne (tgt := 108) hx hb dX7_instruction_97 (by decide) (fun c16 => ?_) (fun c16 => ?_)
            · have hF := (if_neg c16).symm.trans hF
              have hok := Eq.mp (if_neg c16) hok
              refine lv_iload_n hx hb dX7_instruction_108 rfl (lv_at hl 1 rfl) ?_
              refine lv_bipush (v := 12) hx hb dX7_instruction_109 (by decide) ?_
              refine lv_icmp_ne (tgt := 122) hx hb dX7_instruction_111 (by decide) (fun c19 => ?_) (fun c19 => ?_)
              · have hF := (if_neg c19).symm.trans hF
                have hok := Eq.mp (if_neg c19) hok
                refine lv_iload_n hx hb dX7_instruction_122 rfl (lv_at hl 1 rfl) ?_
                refine lv_bipush (v := 15) hx hb dX7_instruction_123 (by decide) ?_
                refine lv_icmp_ne (tgt := 136) hx hb dX7_instruction_125 (by decide) (fun c22 => ?_) (fun c22 => ?_)
                · have hF := (if_neg c22).symm.trans hF
                  have hok := Eq.mp (if_neg c22) hok
                  refine lv_aload_n hx hb dX7_instruction_136 rfl (lv_at hl 3 rfl) ?_
                  refine lv_iload_n hx hb dX7_instruction_137 rfl (lv_at hl 1 rfl) ?_
                  refine lv_iload_n hx hb dX7_instruction_138 rfl (lv_at hl 0 rfl) ?_
                  obtain ⟨c25, hok⟩ := hok
                  refine g_Vv hx hb hml hown hg (c_X7_moves l dC dI cI cZ x hi _ _ _ c25) cs_X7_127 rfl rfl ⟨Nat.le_of_ble_eq_true rfl, Nat.le_of_ble_eq_true rfl⟩ hK hP hS (q0 := 0) rfl rfl rfl hl.1 rfl (Nat.le_of_ble_eq_true rfl) dX7_instruction_139 ⟨Nat.zero_le _, Nat.zero_le _⟩ (fun H locs hP hS => ?_)
                  refine lv_iload_n hx hb dX7_instruction_142 rfl (lv_at hl 1 rfl) ?_
                  refine lv_bipush (v := 12) hx hb dX7_instruction_143 (by decide) ?_
                  refine lv_icmp_ne (tgt := 152) hx hb dX7_instruction_145 (by decide) (fun c26 => ?_) (fun c26 => ?_)
                  · refine lv_iconst (v := 2) hx hb dX7_instruction_152 (by decide) ?_
                    have hF : (_, _) = F := hF
                    exact g_iret hx hb hr hlocks hP hS dX7_instruction_153 (g_p1 hF) (g_p2 hF)
                  · exact absurd c26 c19
                · have hF := (if_pos c22).symm.trans hF
                  have hok := Eq.mp (if_pos c22) hok
                  refine lv_aload_n hx hb dX7_instruction_128 rfl (lv_at hl 3 rfl) ?_
                  refine lv_iload_n hx hb dX7_instruction_129 rfl (lv_at hl 0 rfl) ?_
                  obtain ⟨c23, hok⟩ := hok
                  refine g_Vv hx hb hml hown hg (c_X7_reckon l dC dI cI cZ x hi _ _ c23) cs_X7_124 rfl rfl ⟨Nat.le_of_ble_eq_true rfl, Nat.le_of_ble_eq_true rfl⟩ hK hP hS (q0 := 0) rfl rfl rfl hl.1 rfl (Nat.le_of_ble_eq_true rfl) dX7_instruction_130 ⟨Nat.zero_le _, Nat.zero_le _⟩ (fun H locs hP hS => ?_)
                  refine lv_goto (tgt := 142) hx hb dX7_instruction_133 (by decide) ?_
                  refine lv_iload_n hx hb dX7_instruction_142 rfl (lv_at hl 1 rfl) ?_
                  refine lv_bipush (v := 12) hx hb dX7_instruction_143 (by decide) ?_
                  refine lv_icmp_ne (tgt := 152) hx hb dX7_instruction_145 (by decide) (fun c24 => ?_) (fun c24 => ?_)
                  · refine lv_iconst (v := 2) hx hb dX7_instruction_152 (by decide) ?_
                    have hF : (_, _) = F := hF
                    exact g_iret hx hb hr hlocks hP hS dX7_instruction_153 (g_p1 hF) (g_p2 hF)
                  · exact absurd c24 (by rw [c22]; decide)
              · have hF := (if_pos c19).symm.trans hF
                have hok := Eq.mp (if_pos c19) hok
                refine lv_aload_n hx hb dX7_instruction_114 rfl (lv_at hl 3 rfl) ?_
                refine lv_iload_n hx hb dX7_instruction_115 rfl (lv_at hl 0 rfl) ?_
                obtain ⟨c20, hok⟩ := hok
                refine g_Vv hx hb hml hown hg (c_X7_wide l dC dI cI cZ x hi _ _ c20) cs_X7_121 rfl rfl ⟨Nat.le_of_ble_eq_true rfl, Nat.le_of_ble_eq_true rfl⟩ hK hP hS (q0 := 0) rfl rfl rfl hl.1 rfl (Nat.le_of_ble_eq_true rfl) dX7_instruction_116 ⟨Nat.zero_le _, Nat.zero_le _⟩ (fun H locs hP hS => ?_)
                refine lv_goto (tgt := 142) hx hb dX7_instruction_119 (by decide) ?_
                refine lv_iload_n hx hb dX7_instruction_142 rfl (lv_at hl 1 rfl) ?_
                refine lv_bipush (v := 12) hx hb dX7_instruction_143 (by decide) ?_
                refine lv_icmp_ne (tgt := 152) hx hb dX7_instruction_145 (by decide) (fun c21 => ?_) (fun c21 => ?_)
                · exact absurd c21 (by rw [c19]; decide)
                · refine lv_iconst (v := 3) hx hb dX7_instruction_148 (by decide) ?_
                  refine lv_goto (tgt := 153) hx hb dX7_instruction_149 (by decide) ?_
                  have hF : (_, _) = F := hF
                  exact g_iret hx hb hr hlocks hP hS dX7_instruction_153 (g_p1 hF) (g_p2 hF)
            · have hF := (if_pos c16).symm.trans hF
              have hok := Eq.mp (if_pos c16) hok
              refine lv_aload_n hx hb dX7_instruction_100 rfl (lv_at hl 3 rfl) ?_
              refine lv_iload_n hx hb dX7_instruction_101 rfl (lv_at hl 0 rfl) ?_
              obtain ⟨c17, hok⟩ := hok
              refine g_Vv hx hb hml hown hg (c_X7_seven l dC dI cI cZ x hi _ _ c17) cs_X7_118 rfl rfl ⟨Nat.le_of_ble_eq_true rfl, Nat.le_of_ble_eq_true rfl⟩ hK hP hS (q0 := 0) rfl rfl rfl hl.1 rfl (Nat.le_of_ble_eq_true rfl) dX7_instruction_102 ⟨Nat.zero_le _, Nat.zero_le _⟩ (fun H locs hP hS => ?_)
              refine lv_goto (tgt := 142) hx hb dX7_instruction_105 (by decide) ?_
              refine lv_iload_n hx hb dX7_instruction_142 rfl (lv_at hl 1 rfl) ?_
              refine lv_bipush (v := 12) hx hb dX7_instruction_143 (by decide) ?_
              refine lv_icmp_ne (tgt := 152) hx hb dX7_instruction_145 (by decide) (fun c18 => ?_) (fun c18 => ?_)
              · refine lv_iconst (v := 2) hx hb dX7_instruction_152 (by decide) ?_
                have hF : (_, _) = F := hF
                exact g_iret hx hb hr hlocks hP hS dX7_instruction_153 (g_p1 hF) (g_p2 hF)
              · exact absurd c18 (by rw [c16]; decide)
          · exact absurd c15 c8
        · have hF := (if_pos c8).symm.trans hF
          have hok := Eq.mp (if_pos c8) hok
          refine lv_iload_n hx hb dX7_instruction_61 rfl (lv_at hl 0 rfl) ?_
          refine lv_if_ne (tgt := 80) hx hb dX7_instruction_62 (by decide) (fun c9 => ?_) (fun c9 => ?_)
          · have hF := (if_neg c9).symm.trans hF
            have hok := Eq.mp (if_neg c9) hok
            refine lv_iload_n hx hb dX7_instruction_80 rfl (lv_at hl 1 rfl) ?_
            refine lv_bipush (v := 6) hx hb dX7_instruction_81 (by decide) ?_
            refine lv_icmp_ne (tgt := 94) hx hb dX7_instruction_83 (by decide) (fun c12 => ?_) (fun c12 => ?_)
            · exact absurd c12 (by rw [c8]; decide)
            · refine lv_aload_n hx hb dX7_instruction_86 rfl (lv_at hl 3 rfl) ?_
              refine lv_iload_n hx hb dX7_instruction_87 rfl (lv_at hl 0 rfl) ?_
              obtain ⟨c13, hok⟩ := hok
              refine g_Vv hx hb hml hown hg (c_X7_port l dC dI cI cZ x hi _ _ c13) cs_X7_115 rfl rfl ⟨Nat.le_of_ble_eq_true rfl, Nat.le_of_ble_eq_true rfl⟩ hK hP hS (q0 := 0) rfl rfl rfl hl.1 rfl (Nat.le_of_ble_eq_true rfl) dX7_instruction_88 ⟨Nat.zero_le _, Nat.zero_le _⟩ (fun H locs hP hS => ?_)
              refine lv_goto (tgt := 142) hx hb dX7_instruction_91 (by decide) ?_
              refine lv_iload_n hx hb dX7_instruction_142 rfl (lv_at hl 1 rfl) ?_
              refine lv_bipush (v := 12) hx hb dX7_instruction_143 (by decide) ?_
              refine lv_icmp_ne (tgt := 152) hx hb dX7_instruction_145 (by decide) (fun c14 => ?_) (fun c14 => ?_)
              · refine lv_iconst (v := 2) hx hb dX7_instruction_152 (by decide) ?_
                have hF : (_, _) = F := hF
                exact g_iret hx hb hr hlocks hP hS dX7_instruction_153 (g_p1 hF) (g_p2 hF)
              · exact absurd c14 (by rw [c8]; decide)
          · have hF := (if_pos c9).symm.trans hF
            have hok := Eq.mp (if_pos c9) hok
            refine lv_aload_n hx hb dX7_instruction_65 rfl (lv_at hl 3 rfl) ?_
            refine lv_aload_n hx hb dX7_instruction_66 rfl (lv_at hl 3 rfl) ?_
            refine ge_X7_s hx hb hg hown kf_X7_13 hK hP dX7_instruction_67 ?_
            refine lv_bipush (v := 19) hx hb dX7_instruction_70 (by decide) ?_
            refine mlc_s 19 (by decide) hx hb hK hP dX7_instruction_72 ?_
            refine lv_iconst (v := 1) hx hb dX7_instruction_73 (by decide) ?_
            obtain ⟨c10, hok⟩ := hok
            refine g_Vv hx hb hml hown hg (c_X7_grow l dC dI cI cZ x hi _ _ _ c10) cs_X7_50 rfl rfl ⟨Nat.le_of_ble_eq_true rfl, Nat.le_of_ble_eq_true rfl⟩ hK hP hS (q0 := 0) rfl rfl rfl hl.1 rfl (Nat.le_of_ble_eq_true rfl) dX7_instruction_74 ⟨Nat.zero_le _, Nat.zero_le _⟩ (fun H locs hP hS => ?_)
            refine lv_goto (tgt := 142) hx hb dX7_instruction_77 (by decide) ?_
            refine lv_iload_n hx hb dX7_instruction_142 rfl (lv_at hl 1 rfl) ?_
            refine lv_bipush (v := 12) hx hb dX7_instruction_143 (by decide) ?_
            refine lv_icmp_ne (tgt := 152) hx hb dX7_instruction_145 (by decide) (fun c11 => ?_) (fun c11 => ?_)
            · refine lv_iconst (v := 2) hx hb dX7_instruction_152 (by decide) ?_
              have hF : (_, _) = F := hF
              exact g_iret hx hb hr hlocks hP hS dX7_instruction_153 (g_p1 hF) (g_p2 hF)
            · exact absurd c11 (by rw [c8]; decide)
      · have hF := (if_pos c5).symm.trans hF
        have hok := Eq.mp (if_pos c5) hok
        refine lv_aload_n hx hb dX7_instruction_47 rfl (lv_at hl 3 rfl) ?_
        refine lv_iload_n hx hb dX7_instruction_48 rfl (lv_at hl 0 rfl) ?_
        obtain ⟨c6, hok⟩ := hok
        refine g_Vv hx hb hml hown hg (c_X7_branch l dC dI cI cZ x hi _ _ c6) cs_X7_112 rfl rfl ⟨Nat.le_of_ble_eq_true rfl, Nat.le_of_ble_eq_true rfl⟩ hK hP hS (q0 := 0) rfl rfl rfl hl.1 rfl (Nat.le_of_ble_eq_true rfl) dX7_instruction_49 ⟨Nat.zero_le _, Nat.zero_le _⟩ (fun H locs hP hS => ?_)
        refine lv_goto (tgt := 142) hx hb dX7_instruction_52 (by decide) ?_
        refine lv_iload_n hx hb dX7_instruction_142 rfl (lv_at hl 1 rfl) ?_
        refine lv_bipush (v := 12) hx hb dX7_instruction_143 (by decide) ?_
        refine lv_icmp_ne (tgt := 152) hx hb dX7_instruction_145 (by decide) (fun c7 => ?_) (fun c7 => ?_)
        · refine lv_iconst (v := 2) hx hb dX7_instruction_152 (by decide) ?_
          have hF : (_, _) = F := hF
          exact g_iret hx hb hr hlocks hP hS dX7_instruction_153 (g_p1 hF) (g_p2 hF)
        · exact absurd c7 (by rw [c5]; decide)
    · have hF := (if_pos c3).symm.trans hF
      have hok := Eq.mp (if_pos c3) hok
      refine lv_aload_n hx hb dX7_instruction_31 rfl (lv_at hl 3 rfl) ?_
      refine ge_X7_s hx hb hg hown kf_X7_13 hK hP dX7_instruction_32 ?_
      refine lv_bipush (v := 23) hx hb dX7_instruction_35 (by decide) ?_
      refine lv_iconst (v := 1) hx hb dX7_instruction_37 (by decide) ?_
      refine mac_s 23 (by decide) hi hx hb hK hP hS dX7_instruction_38 (fun H locs hP hS => ?_)
      refine lv_goto (tgt := 142) hx hb dX7_instruction_39 (by decide) ?_
      refine lv_iload_n hx hb dX7_instruction_142 rfl (lv_at hl 1 rfl) ?_
      refine lv_bipush (v := 12) hx hb dX7_instruction_143 (by decide) ?_
      refine lv_icmp_ne (tgt := 152) hx hb dX7_instruction_145 (by decide) (fun c4 => ?_) (fun c4 => ?_)
      · have hF := (if_neg c4).symm.trans hF
        have hok := Eq.mp (if_neg c4) hok
        refine lv_iconst (v := 2) hx hb dX7_instruction_152 (by decide) ?_
        have hF : (_, _) = F := hF
        exact g_iret hx hb hr hlocks hP hS dX7_instruction_153 (g_p1 hF) (g_p2 hF)
      · have hF := (if_pos c4).symm.trans hF
        have hok := Eq.mp (if_pos c4) hok
        refine lv_iconst (v := 3) hx hb dX7_instruction_148 (by decide) ?_
        refine lv_goto (tgt := 153) hx hb dX7_instruction_149 (by decide) ?_
        have hF : (_, _) = F := hF
        exact g_iret hx hb hr hlocks hP hS dX7_instruction_153 (g_p1 hF) (g_p2 hF)
  · have hF := (if_pos c1).symm.trans hF
    have hok := Eq.mp (if_pos c1) hok
    refine lv_iconst (v := 1) hx hb dX7_instruction_11 (by decide) ?_
    have hF : (_, _) = F := hF
    exact g_iret hx hb hr hlocks hP hS dX7_instruction_12 (g_p1 hF) (g_p2 hF)
def f_X7_cycle (u : MS) : MS :=
  let u1 : MS := ms_place u ((mq_place u) + 1)
  if 14 ≤ (mq_place u1) then
    let u2 : MS := ms_place u1 0
    let u3 : MS := ms_fetched u2 0
    let u4 : MS := ms_line u3 ((mq_line u3) + 1)
    if 262 ≤ (mq_line u4) then
      let u5 : MS := ms_line u4 0
      let u6 : MS := ms_intr u5 0
      let u7 : MS := ms_frames u6 ((mq_frames u6) + 1)
      if (mq_v u7 19) ≤ 0 then
        if (mq_v u7 20) ≤ 0 then
          u7
        else
          let u8 : MS := ms_v u7 (upd (mq_v u7) 20 ((mq_v u7 20) - 1))
          u8
      else
        let u9 : MS := ms_v u7 (upd (mq_v u7) 19 ((mq_v u7 19) - 1))
        if (mq_v u9 20) ≤ 0 then
          u9
        else
          let u10 : MS := ms_v u9 (upd (mq_v u9) 20 ((mq_v u9 20) - 1))
          u10
    else
      u4
  else
    u1
set_option maxHeartbeats 4000000 in
set_option maxRecDepth 100000 in
theorem c_X7_cycle (l : Launch) (dC : Nat → ClassId) (dI : Nat → Nat → Nat) (cI cZ : ClassId) (x : Nat → Nat) (hi : g_inj 7 x) (u : MS) : g_Mv l yX7_cycle (.code yX7_cycle cX7_cycle 1 none) { frames := 0, cells := 0, slots := 0, locals := 0 } (dC, dI) vwCl (tysW cI cZ) (wM x cI cZ) (g_bA 7 x) u [.ref (x 0)] (f_X7_cycle u) := by
  refine Met.ofW (cc := cX7_cycle) (maxL := 1) (ret := none) (by decide) rfl ?_
  intro p e s m args below meth c s₁ B hml hv
  obtain ⟨rfl, hP, hK⟩ := hv
  have hx := B.exec
  have hb := B.bytes
  have hr := B.returns
  have hts := atoms_spec (ws := .code yX7_cycle cX7_cycle 1 none :: gtbl) B.pre
  have hg : ∀ w ∈ gtbl, w.before _ s = true := fun w h => hts w (List.mem_cons_of_mem _ h)
  have hown : s.vm.findClass RX7 = some m.cls := findClass_of_methodNamed B.named
  have hlocks := B.notSynchronized
  have hS : va_S (g_bA 7 x) s.heap s.heap [] := va_S.rf
  have hl := lv_entry ([.ref (x 0)]) (n := 1) (Nat.le_of_ble_eq_true rfl)
  rw [lg_entry_eq]
  generalize (lg_sl ([.ref (x 0)]) ++ List.replicate (1 - (lg_sl ([.ref (x 0)])).length) Slot.unset).toArray = ls at hl ⊢
  have hl : lv_has ls 1 [(0, .ref (x 0))] := hl
  obtain ⟨F, hF⟩ : ∃ F, f_X7_cycle u = F := ⟨_, rfl⟩
  rw [hF]
  refine lv_aload_n hx hb dX7_cycle_0 rfl (lv_at hl 0 rfl) ?_
  refine lv_dup hx hb dX7_cycle_1 rfl ?_
  refine ge_X7_place hx hb hg hown kf_X7_130 hK hP dX7_cycle_2 ?_
  refine lv_iconst (v := 1) hx hb dX7_cycle_5 (by decide) ?_
  refine lv_iadd hx hb dX7_cycle_6 ?_
  refine pu_X7_place hi hx hb hg hown kf_X7_130 hK hP hS dX7_cycle_7 (fun H locs hP hS => ?_)
  refine lv_aload_n hx hb dX7_cycle_10 rfl (lv_at hl 0 rfl) ?_
  refine ge_X7_place hx hb hg hown kf_X7_130 hK hP dX7_cycle_11 ?_
  refine lv_bipush (v := 14) hx hb dX7_cycle_14 (by decide) ?_
  refine lv_icmp_ge (tgt := 20) hx hb dX7_cycle_16 (by decide) (fun c1 => ?_) (fun c1 => ?_)
  · have hF := (if_pos c1).symm.trans hF
    refine lv_aload_n hx hb dX7_cycle_20 rfl (lv_at hl 0 rfl) ?_
    refine lv_iconst (v := 0) hx hb dX7_cycle_21 (by decide) ?_
    refine pu_X7_place hi hx hb hg hown kf_X7_130 hK hP hS dX7_cycle_22 (fun H locs hP hS => ?_)
    refine lv_aload_n hx hb dX7_cycle_25 rfl (lv_at hl 0 rfl) ?_
    refine lv_iconst (v := 0) hx hb dX7_cycle_26 (by decide) ?_
    refine pu_X7_fetched hi hx hb hg hown kf_X7_133 hK hP hS rfl rfl dX7_cycle_27 (fun H locs hP hS => ?_)
    refine lv_aload_n hx hb dX7_cycle_30 rfl (lv_at hl 0 rfl) ?_
    refine lv_dup hx hb dX7_cycle_31 rfl ?_
    refine ge_X7_line hx hb hg hown kf_X7_59 hK hP dX7_cycle_32 ?_
    refine lv_iconst (v := 1) hx hb dX7_cycle_35 (by decide) ?_
    refine lv_iadd hx hb dX7_cycle_36 ?_
    refine pu_X7_line hi hx hb hg hown kf_X7_59 hK hP hS dX7_cycle_37 (fun H locs hP hS => ?_)
    refine lv_aload_n hx hb dX7_cycle_40 rfl (lv_at hl 0 rfl) ?_
    refine ge_X7_line hx hb hg hown kf_X7_59 hK hP dX7_cycle_41 ?_
    refine lv_sipush (v := 262) hx hb dX7_cycle_44 (by decide) ?_
    refine lv_icmp_ge (tgt := 51) hx hb dX7_cycle_47 (by decide) (fun c2 => ?_) (fun c2 => ?_)
    · have hF := (if_pos c2).symm.trans hF
      refine lv_aload_n hx hb dX7_cycle_51 rfl (lv_at hl 0 rfl) ?_
      refine lv_iconst (v := 0) hx hb dX7_cycle_52 (by decide) ?_
      refine pu_X7_line hi hx hb hg hown kf_X7_59 hK hP hS dX7_cycle_53 (fun H locs hP hS => ?_)
      refine lv_aload_n hx hb dX7_cycle_56 rfl (lv_at hl 0 rfl) ?_
      refine lv_iconst (v := 0) hx hb dX7_cycle_57 (by decide) ?_
      refine pu_X7_interrupted hi hx hb hg hown kf_X7_136 hK hP hS rfl rfl dX7_cycle_58 (fun H locs hP hS => ?_)
      refine lv_aload_n hx hb dX7_cycle_61 rfl (lv_at hl 0 rfl) ?_
      refine lv_dup hx hb dX7_cycle_62 rfl ?_
      refine ge_X7_frames hx hb hg hown kf_X7_139 hK hP dX7_cycle_63 ?_
      refine lv_iconst (v := 1) hx hb dX7_cycle_66 (by decide) ?_
      refine lv_iadd hx hb dX7_cycle_67 ?_
      refine pu_X7_frames hi hx hb hg hown kf_X7_139 hK hP hS dX7_cycle_68 (fun H locs hP hS => ?_)
      refine lv_aload_n hx hb dX7_cycle_71 rfl (lv_at hl 0 rfl) ?_
      refine ge_X7_v hx hb hg hown kf_X7_16 hK hP dX7_cycle_72 ?_
      refine lv_bipush (v := 19) hx hb dX7_cycle_75 (by decide) ?_
      refine mlc_v 19 (by decide) hx hb hK hP dX7_cycle_77 ?_
      refine lv_if_le (tgt := 92) hx hb dX7_cycle_78 (by decide) (fun c3 => ?_) (fun c3 => ?_)
      · have hF := (if_pos c3).symm.trans hF
        refine lv_aload_n hx hb dX7_cycle_92 rfl (lv_at hl 0 rfl) ?_
        refine ge_X7_v hx hb hg hown kf_X7_16 hK hP dX7_cycle_93 ?_
        refine lv_bipush (v := 20) hx hb dX7_cycle_96 (by decide) ?_
        refine mlc_v 20 (by decide) hx hb hK hP dX7_cycle_98 ?_
        refine lv_if_le (tgt := 113) hx hb dX7_cycle_99 (by decide) (fun c4 => ?_) (fun c4 => ?_)
        · have hF := (if_pos c4).symm.trans hF
          exact g_vret hx hb hr hlocks hP hS dX7_cycle_113 hF
        · have hF := (if_neg c4).symm.trans hF
          refine lv_aload_n hx hb dX7_cycle_102 rfl (lv_at hl 0 rfl) ?_
          refine ge_X7_v hx hb hg hown kf_X7_16 hK hP dX7_cycle_103 ?_
          refine lv_bipush (v := 20) hx hb dX7_cycle_106 (by decide) ?_
          refine lv_dup2_11 hx hb dX7_cycle_108 rfl rfl ?_
          refine mlc_v 20 (by decide) hx hb hK hP dX7_cycle_109 ?_
          refine lv_iconst (v := 1) hx hb dX7_cycle_110 (by decide) ?_
          refine lv_isub hx hb dX7_cycle_111 ?_
          refine mac_v 20 (by decide) hi hx hb hK hP hS dX7_cycle_112 (fun H locs hP hS => ?_)
          exact g_vret hx hb hr hlocks hP hS dX7_cycle_113 hF
      · have hF := (if_neg c3).symm.trans hF
        refine lv_aload_n hx hb dX7_cycle_81 rfl (lv_at hl 0 rfl) ?_
        refine ge_X7_v hx hb hg hown kf_X7_16 hK hP dX7_cycle_82 ?_
        refine lv_bipush (v := 19) hx hb dX7_cycle_85 (by decide) ?_
        refine lv_dup2_11 hx hb dX7_cycle_87 rfl rfl ?_
        refine mlc_v 19 (by decide) hx hb hK hP dX7_cycle_88 ?_
        refine lv_iconst (v := 1) hx hb dX7_cycle_89 (by decide) ?_
        refine lv_isub hx hb dX7_cycle_90 ?_
        refine mac_v 19 (by decide) hi hx hb hK hP hS dX7_cycle_91 (fun H locs hP hS => ?_)
        refine lv_aload_n hx hb dX7_cycle_92 rfl (lv_at hl 0 rfl) ?_
        refine ge_X7_v hx hb hg hown kf_X7_16 hK hP dX7_cycle_93 ?_
        refine lv_bipush (v := 20) hx hb dX7_cycle_96 (by decide) ?_
        refine mlc_v 20 (by decide) hx hb hK hP dX7_cycle_98 ?_
        refine lv_if_le (tgt := 113) hx hb dX7_cycle_99 (by decide) (fun c5 => ?_) (fun c5 => ?_)
        · have hF := (if_pos c5).symm.trans hF
          exact g_vret hx hb hr hlocks hP hS dX7_cycle_113 hF
        · have hF := (if_neg c5).symm.trans hF
          refine lv_aload_n hx hb dX7_cycle_102 rfl (lv_at hl 0 rfl) ?_
          refine ge_X7_v hx hb hg hown kf_X7_16 hK hP dX7_cycle_103 ?_
          refine lv_bipush (v := 20) hx hb dX7_cycle_106 (by decide) ?_
          refine lv_dup2_11 hx hb dX7_cycle_108 rfl rfl ?_
          refine mlc_v 20 (by decide) hx hb hK hP dX7_cycle_109 ?_
          refine lv_iconst (v := 1) hx hb dX7_cycle_110 (by decide) ?_
          refine lv_isub hx hb dX7_cycle_111 ?_
          refine mac_v 20 (by decide) hi hx hb hK hP hS dX7_cycle_112 (fun H locs hP hS => ?_)
          exact g_vret hx hb hr hlocks hP hS dX7_cycle_113 hF
    · have hF := (if_neg c2).symm.trans hF
      exact g_vret hx hb hr hlocks hP hS dX7_cycle_50 hF
  · have hF := (if_neg c1).symm.trans hF
    exact g_vret hx hb hr hlocks hP hS dX7_cycle_19 hF
def f_X7_cycles_L : Nat → MS → Int32 → Int32 → MS
  | 0, u, _, _ => u
  | n + 1, u, a1, a2 =>
    if a1 ≤ a2 then
      u
    else
      let r1 : MS := f_X7_cycle u
      let t2 : Int32 := a2 + Int32.ofInt 1
      f_X7_cycles_L n r1 a1 t2
def ok_X7_cycles_L : Nat → MS → Int32 → Int32 → Prop
  | 0, _, _, _ => False
  | n + 1, u, a1, a2 =>
    if a1 ≤ a2 then
      True
    else
      let r1 : MS := f_X7_cycle u
      let t2 : Int32 := a2 + Int32.ofInt 1
      ok_X7_cycles_L n r1 a1 t2
def f_X7_cycles (u : MS) (p0 : Int32) : MS :=
  f_X7_cycles_L 9 u p0 0
def ok_X7_cycles (u : MS) (p0 : Int32) : Prop :=
  ok_X7_cycles_L 9 u p0 0
set_option maxHeartbeats 4000000 in
set_option maxRecDepth 100000 in
theorem c_X7_cycles (l : Launch) (dC : Nat → ClassId) (dI : Nat → Nat → Nat) (cI cZ : ClassId) (x : Nat → Nat) (hi : g_inj 7 x) (u : MS) (p0 : Int32) (hok : ok_X7_cycles u p0) : g_Mv l yX7_cycles (.code yX7_cycles cX7_cycles 3 none) { frames := 1, cells := 0, slots := 0, locals := 20 } (dC, dI) vwCl (tysW cI cZ) (wM x cI cZ) (g_bA 7 x) u [.ref (x 0), .int p0] (f_X7_cycles u p0) := by
  refine Met.ofW (cc := cX7_cycles) (maxL := 3) (ret := none) (by decide) rfl ?_
  intro p e s m args below meth c s₁ B hml hv
  obtain ⟨rfl, hP, hK⟩ := hv
  have hx := B.exec
  have hb := B.bytes
  have hr := B.returns
  have hts := atoms_spec (ws := .code yX7_cycles cX7_cycles 3 none :: gtbl) B.pre
  have hg : ∀ w ∈ gtbl, w.before _ s = true := fun w h => hts w (List.mem_cons_of_mem _ h)
  have hown : s.vm.findClass RX7 = some m.cls := findClass_of_methodNamed B.named
  have hlocks := B.notSynchronized
  have hS : va_S (g_bA 7 x) s.heap s.heap [] := va_S.rf
  have hl := lv_entry ([.ref (x 0), .int p0]) (n := 3) (Nat.le_of_ble_eq_true rfl)
  rw [lg_entry_eq]
  generalize (lg_sl ([.ref (x 0), .int p0]) ++ List.replicate (3 - (lg_sl ([.ref (x 0), .int p0])).length) Slot.unset).toArray = ls at hl ⊢
  have hl : lv_has ls 3 [(0, .ref (x 0)), (1, .int p0)] := hl
  obtain ⟨F, hF⟩ : ∃ F, f_X7_cycles u p0 = F := ⟨_, rfl⟩
  rw [hF]
  have loop : ∀ (n : Nat), (∀ (u : MS) (a1 : Int32) (a2 : Int32) (H : Heap) (locs : List Loc) (ls : Array Slot), f_X7_cycles_L n u a1 a2 = F → ok_X7_cycles_L n u a1 a2 → va_P (dC, dI) vwCl (wM x cI cZ u) H → va_S (g_bA 7 x) s.heap H locs → lv_has ls 3 [(0, .ref (x 0)), (1, .int a1), (2, .int a2)] → W p l e (headSpec (.code yX7_cycles cX7_cycles 3 none :: gtbl) { frames := 1, cells := 0, slots := 0, locals := 20 }).room s m ([.ref (x 0), .int p0] : List Value).toArray below meth c H locs 0 0 (MQ below (va_Qv (fun v1 => v1 = F) (fun v1 t => va_P (dC, dI) vwCl (wM x cI cZ v1) t.heap) (g_bA 7 x)) ([.ref (x 0), .int p0] : List Value).toArray s 0 0 (g_bA 7 x)) (F0 m 2 ls [])) := by
    intro n
    induction n with
    | zero => intro u a1 a2 H locs ls hF hok; exact hok.elim
    | succ n ih =>
      intro u a1 a2 H locs ls hF hok hP hS hl
      refine lv_iload_n hx hb dX7_cycles_2 rfl (lv_at hl 2 rfl) ?_
      refine lv_iload_n hx hb dX7_cycles_3 rfl (lv_at hl 1 rfl) ?_
      refine lv_icmp_ge (tgt := 17) hx hb dX7_cycles_4 (by decide) (fun c1 => ?_) (fun c1 => ?_)
      · have hF := (if_pos c1).symm.trans hF
        have hok := Eq.mp (if_pos c1) hok
        exact g_vret hx hb hr hlocks hP hS dX7_cycles_17 hF
      · have hF := (if_neg c1).symm.trans hF
        have hok := Eq.mp (if_neg c1) hok
        refine lv_aload_n hx hb dX7_cycles_7 rfl (lv_at hl 0 rfl) ?_
        refine g_Vv hx hb hml hown hg (c_X7_cycle l dC dI cI cZ x hi _) cs_X7_142 rfl rfl ⟨Nat.le_of_ble_eq_true rfl, Nat.le_of_ble_eq_true rfl⟩ hK hP hS (q0 := 0) rfl rfl rfl hl.1 rfl (Nat.le_of_ble_eq_true rfl) dX7_cycles_8 ⟨Nat.zero_le _, Nat.zero_le _⟩ (fun H locs hP hS => ?_)
        refine lv_iinc hx hb dX7_cycles_11 hl (k := 2) rfl rfl (by decide) rfl (fun ls hl => ?_)
        have hl : lv_has ls 3 [(2, _), (0, _), (1, _)] := hl
        refine lv_goto (tgt := 2) hx hb dX7_cycles_14 (by decide) ?_
        exact ih _ _ _ _ _ _ hF hok hP hS (lv_sub hl [1, 2, 0] rfl)
  refine lv_iconst (v := 0) hx hb dX7_cycles_0 (by decide) ?_
  refine lv_istore_n hx hb dX7_cycles_1 rfl hl (by decide) rfl (fun ls hl => ?_)
  have hl : lv_has ls 3 [(2, _), (0, _), (1, _)] := hl
  exact (loop 9) _ _ _ _ _ _ hF hok hP hS (lv_sub hl [1, 2, 0] rfl)
def f_X7_behindOne_L : Nat → MS → Int32 → Int32 × MS
  | 0, u, _ => (0, u)
  | n + 1, u, a1 =>
    if 8 ≤ a1 then
      let u49 : MS := ms_fetched u 1
      let u50 : MS := ms_s u49 (upd (mq_s u49) 23 0)
      (8, u50)
    else
      let u51 : MS := ms_shown u (upd (mq_shown u) ((((8 : Int32) * ((mq_line u) - 64)) + a1)).toNatClampNeg (f_X7_m u 0))
      let r52 : MS := f_X7_grow u51 0 1
      let t53 : Int32 := a1 + Int32.ofInt 1
      f_X7_behindOne_L n r52 t53
def ok_X7_behindOne_L : Nat → MS → Int32 → Prop
  | 0, _, _ => False
  | n + 1, u, a1 =>
    if 8 ≤ a1 then
      let u49 : MS := ms_fetched u 1
      let u50 : MS := ms_s u49 (upd (mq_s u49) 23 0)
      True
    else
      ok_X7_m u 0 ∧
      vp_in (((8 : Int32) * ((mq_line u) - 64)) + a1) 1024 ∧
      let u51 : MS := ms_shown u (upd (mq_shown u) ((((8 : Int32) * ((mq_line u) - 64)) + a1)).toNatClampNeg (f_X7_m u 0))
      ok_X7_grow u51 0 1 ∧
      let r52 : MS := f_X7_grow u51 0 1
      let t53 : Int32 := a1 + Int32.ofInt 1
      ok_X7_behindOne_L n r52 t53
def f_X7_behindOne (u : MS) : Int32 × MS :=
  if (mq_on u) = 0 then
    (0, u)
  else
    if (mq_line u) < 64 then
      if (mq_line u) = 62 then
        if (mq_s u 21) = 1 then
          if (mq_intr u) = 0 then
            let u1 : MS := ms_s u (upd (mq_s u) 20 (((16 : Int32) * (mq_s u 19)) + (mq_s u 18)))
            let u2 : MS := ms_s u1 (upd (mq_s u1) 19 2)
            let u3 : MS := ms_s u2 (upd (mq_s u2) 18 1)
            let u4 : MS := ms_s u3 (upd (mq_s u3) 21 0)
            let u5 : MS := ms_s u4 (upd (mq_s u4) 23 0)
            let u6 : MS := ms_intr u5 1
            (1, u6)
          else
            (0, u)
        else
          (0, u)
      else
        if (mq_line u) = 63 then
          if (mq_s u 21) = 1 then
            if (mq_intr u) = 0 then
              let u7 : MS := ms_s u (upd (mq_s u) 20 (((16 : Int32) * (mq_s u 19)) + (mq_s u 18)))
              let u8 : MS := ms_s u7 (upd (mq_s u7) 19 2)
              let u9 : MS := ms_s u8 (upd (mq_s u8) 18 1)
              let u10 : MS := ms_s u9 (upd (mq_s u9) 21 0)
              let u11 : MS := ms_s u10 (upd (mq_s u10) 23 0)
              let u12 : MS := ms_intr u11 1
              (1, u12)
            else
              (0, u)
          else
            (0, u)
        else
          (0, u)
    else
      if 192 ≤ (mq_line u) then
        if (mq_line u) = 62 then
          if (mq_s u 21) = 1 then
            if (mq_intr u) = 0 then
              let u13 : MS := ms_s u (upd (mq_s u) 20 (((16 : Int32) * (mq_s u 19)) + (mq_s u 18)))
              let u14 : MS := ms_s u13 (upd (mq_s u13) 19 2)
              let u15 : MS := ms_s u14 (upd (mq_s u14) 18 1)
              let u16 : MS := ms_s u15 (upd (mq_s u15) 21 0)
              let u17 : MS := ms_s u16 (upd (mq_s u16) 23 0)
              let u18 : MS := ms_intr u17 1
              (1, u18)
            else
              (0, u)
          else
            (0, u)
        else
          if (mq_line u) = 63 then
            if (mq_s u 21) = 1 then
              if (mq_intr u) = 0 then
                let u19 : MS := ms_s u (upd (mq_s u) 20 (((16 : Int32) * (mq_s u 19)) + (mq_s u 18)))
                let u20 : MS := ms_s u19 (upd (mq_s u19) 19 2)
                let u21 : MS := ms_s u20 (upd (mq_s u20) 18 1)
                let u22 : MS := ms_s u21 (upd (mq_s u21) 21 0)
                let u23 : MS := ms_s u22 (upd (mq_s u22) 23 0)
                let u24 : MS := ms_intr u23 1
                (1, u24)
              else
                (0, u)
            else
              (0, u)
          else
            (0, u)
      else
        if (mq_fetched u) = 0 then
          if (mq_place u) < 2 then
            if (mq_line u) = 62 then
              if (mq_s u 21) = 1 then
                if (mq_intr u) = 0 then
                  let u25 : MS := ms_s u (upd (mq_s u) 20 (((16 : Int32) * (mq_s u 19)) + (mq_s u 18)))
                  let u26 : MS := ms_s u25 (upd (mq_s u25) 19 2)
                  let u27 : MS := ms_s u26 (upd (mq_s u26) 18 1)
                  let u28 : MS := ms_s u27 (upd (mq_s u27) 21 0)
                  let u29 : MS := ms_s u28 (upd (mq_s u28) 23 0)
                  let u30 : MS := ms_intr u29 1
                  (1, u30)
                else
                  (0, u)
              else
                (0, u)
            else
              if (mq_line u) = 63 then
                if (mq_s u 21) = 1 then
                  if (mq_intr u) = 0 then
                    let u31 : MS := ms_s u (upd (mq_s u) 20 (((16 : Int32) * (mq_s u 19)) + (mq_s u 18)))
                    let u32 : MS := ms_s u31 (upd (mq_s u31) 19 2)
                    let u33 : MS := ms_s u32 (upd (mq_s u32) 18 1)
                    let u34 : MS := ms_s u33 (upd (mq_s u33) 21 0)
                    let u35 : MS := ms_s u34 (upd (mq_s u34) 23 0)
                    let u36 : MS := ms_intr u35 1
                    (1, u36)
                  else
                    (0, u)
                else
                  (0, u)
              else
                (0, u)
          else
            f_X7_behindOne_L 9 u 0
        else
          if (mq_line u) = 62 then
            if (mq_s u 21) = 1 then
              if (mq_intr u) = 0 then
                let u37 : MS := ms_s u (upd (mq_s u) 20 (((16 : Int32) * (mq_s u 19)) + (mq_s u 18)))
                let u38 : MS := ms_s u37 (upd (mq_s u37) 19 2)
                let u39 : MS := ms_s u38 (upd (mq_s u38) 18 1)
                let u40 : MS := ms_s u39 (upd (mq_s u39) 21 0)
                let u41 : MS := ms_s u40 (upd (mq_s u40) 23 0)
                let u42 : MS := ms_intr u41 1
                (1, u42)
              else
                (0, u)
            else
              (0, u)
          else
            if (mq_line u) = 63 then
              if (mq_s u 21) = 1 then
                if (mq_intr u) = 0 then
                  let u43 : MS := ms_s u (upd (mq_s u) 20 (((16 : Int32) * (mq_s u 19)) + (mq_s u 18)))
                  let u44 : MS := ms_s u43 (upd (mq_s u43) 19 2)
                  let u45 : MS := ms_s u44 (upd (mq_s u44) 18 1)
                  let u46 : MS := ms_s u45 (upd (mq_s u45) 21 0)
                  let u47 : MS := ms_s u46 (upd (mq_s u46) 23 0)
                  let u48 : MS := ms_intr u47 1
                  (1, u48)
                else
                  (0, u)
              else
                (0, u)
            else
              (0, u)
def ok_X7_behindOne (u : MS) : Prop :=
  if (mq_on u) = 0 then
    True
  else
    if (mq_line u) < 64 then
      if (mq_line u) = 62 then
        if (mq_s u 21) = 1 then
          if (mq_intr u) = 0 then
            let u1 : MS := ms_s u (upd (mq_s u) 20 (((16 : Int32) * (mq_s u 19)) + (mq_s u 18)))
            let u2 : MS := ms_s u1 (upd (mq_s u1) 19 2)
            let u3 : MS := ms_s u2 (upd (mq_s u2) 18 1)
            let u4 : MS := ms_s u3 (upd (mq_s u3) 21 0)
            let u5 : MS := ms_s u4 (upd (mq_s u4) 23 0)
            let u6 : MS := ms_intr u5 1
            True
          else
            True
        else
          True
      else
        if (mq_line u) = 63 then
          if (mq_s u 21) = 1 then
            if (mq_intr u) = 0 then
              let u7 : MS := ms_s u (upd (mq_s u) 20 (((16 : Int32) * (mq_s u 19)) + (mq_s u 18)))
              let u8 : MS := ms_s u7 (upd (mq_s u7) 19 2)
              let u9 : MS := ms_s u8 (upd (mq_s u8) 18 1)
              let u10 : MS := ms_s u9 (upd (mq_s u9) 21 0)
              let u11 : MS := ms_s u10 (upd (mq_s u10) 23 0)
              let u12 : MS := ms_intr u11 1
              True
            else
              True
          else
            True
        else
          True
    else
      if 192 ≤ (mq_line u) then
        if (mq_line u) = 62 then
          if (mq_s u 21) = 1 then
            if (mq_intr u) = 0 then
              let u13 : MS := ms_s u (upd (mq_s u) 20 (((16 : Int32) * (mq_s u 19)) + (mq_s u 18)))
              let u14 : MS := ms_s u13 (upd (mq_s u13) 19 2)
              let u15 : MS := ms_s u14 (upd (mq_s u14) 18 1)
              let u16 : MS := ms_s u15 (upd (mq_s u15) 21 0)
              let u17 : MS := ms_s u16 (upd (mq_s u16) 23 0)
              let u18 : MS := ms_intr u17 1
              True
            else
              True
          else
            True
        else
          if (mq_line u) = 63 then
            if (mq_s u 21) = 1 then
              if (mq_intr u) = 0 then
                let u19 : MS := ms_s u (upd (mq_s u) 20 (((16 : Int32) * (mq_s u 19)) + (mq_s u 18)))
                let u20 : MS := ms_s u19 (upd (mq_s u19) 19 2)
                let u21 : MS := ms_s u20 (upd (mq_s u20) 18 1)
                let u22 : MS := ms_s u21 (upd (mq_s u21) 21 0)
                let u23 : MS := ms_s u22 (upd (mq_s u22) 23 0)
                let u24 : MS := ms_intr u23 1
                True
              else
                True
            else
              True
          else
            True
      else
        if (mq_fetched u) = 0 then
          if (mq_place u) < 2 then
            if (mq_line u) = 62 then
              if (mq_s u 21) = 1 then
                if (mq_intr u) = 0 then
                  let u25 : MS := ms_s u (upd (mq_s u) 20 (((16 : Int32) * (mq_s u 19)) + (mq_s u 18)))
                  let u26 : MS := ms_s u25 (upd (mq_s u25) 19 2)
                  let u27 : MS := ms_s u26 (upd (mq_s u26) 18 1)
                  let u28 : MS := ms_s u27 (upd (mq_s u27) 21 0)
                  let u29 : MS := ms_s u28 (upd (mq_s u28) 23 0)
                  let u30 : MS := ms_intr u29 1
                  True
                else
                  True
              else
                True
            else
              if (mq_line u) = 63 then
                if (mq_s u 21) = 1 then
                  if (mq_intr u) = 0 then
                    let u31 : MS := ms_s u (upd (mq_s u) 20 (((16 : Int32) * (mq_s u 19)) + (mq_s u 18)))
                    let u32 : MS := ms_s u31 (upd (mq_s u31) 19 2)
                    let u33 : MS := ms_s u32 (upd (mq_s u32) 18 1)
                    let u34 : MS := ms_s u33 (upd (mq_s u33) 21 0)
                    let u35 : MS := ms_s u34 (upd (mq_s u34) 23 0)
                    let u36 : MS := ms_intr u35 1
                    True
                  else
                    True
                else
                  True
              else
                True
          else
            ok_X7_behindOne_L 9 u 0
        else
          if (mq_line u) = 62 then
            if (mq_s u 21) = 1 then
              if (mq_intr u) = 0 then
                let u37 : MS := ms_s u (upd (mq_s u) 20 (((16 : Int32) * (mq_s u 19)) + (mq_s u 18)))
                let u38 : MS := ms_s u37 (upd (mq_s u37) 19 2)
                let u39 : MS := ms_s u38 (upd (mq_s u38) 18 1)
                let u40 : MS := ms_s u39 (upd (mq_s u39) 21 0)
                let u41 : MS := ms_s u40 (upd (mq_s u40) 23 0)
                let u42 : MS := ms_intr u41 1
                True
              else
                True
            else
              True
          else
            if (mq_line u) = 63 then
              if (mq_s u 21) = 1 then
                if (mq_intr u) = 0 then
                  let u43 : MS := ms_s u (upd (mq_s u) 20 (((16 : Int32) * (mq_s u 19)) + (mq_s u 18)))
                  let u44 : MS := ms_s u43 (upd (mq_s u43) 19 2)
                  let u45 : MS := ms_s u44 (upd (mq_s u44) 18 1)
                  let u46 : MS := ms_s u45 (upd (mq_s u45) 21 0)
                  let u47 : MS := ms_s u46 (upd (mq_s u46) 23 0)
                  let u48 : MS := ms_intr u47 1
                  True
                else
                  True
              else
                True
            else
              True
set_option maxHeartbeats 4000000 in
set_option maxRecDepth 100000 in
theorem c_X7_behindOne (l : Launch) (dC : Nat → ClassId) (dI : Nat → Nat → Nat) (cI cZ : ClassId) (x : Nat → Nat) (hi : g_inj 7 x) (u : MS) (hok : ok_X7_behindOne u) : g_Mi l yX7_behindOne (.code yX7_behindOne cX7_behindOne 2 (some .int)) { frames := 2, cells := 0, slots := 0, locals := 42 } (dC, dI) vwCl (tysW cI cZ) (wM x cI cZ) (g_bA 7 x) u [.ref (x 0)] (f_X7_behindOne u).1 (f_X7_behindOne u).2 := by
  refine Met.ofW (cc := cX7_behindOne) (maxL := 2) (ret := (some .int)) (by decide) rfl ?_
  intro p e s m args below meth c s₁ B hml hv
  obtain ⟨rfl, hP, hK⟩ := hv
  have hx := B.exec
  have hb := B.bytes
  have hr := B.returns
  have hts := atoms_spec (ws := .code yX7_behindOne cX7_behindOne 2 (some .int) :: gtbl) B.pre
  have hg : ∀ w ∈ gtbl, w.before _ s = true := fun w h => hts w (List.mem_cons_of_mem _ h)
  have hown : s.vm.findClass RX7 = some m.cls := findClass_of_methodNamed B.named
  have hlocks := B.notSynchronized
  have hS : va_S (g_bA 7 x) s.heap s.heap [] := va_S.rf
  have hl := lv_entry ([.ref (x 0)]) (n := 2) (Nat.le_of_ble_eq_true rfl)
  rw [lg_entry_eq]
  generalize (lg_sl ([.ref (x 0)]) ++ List.replicate (2 - (lg_sl ([.ref (x 0)])).length) Slot.unset).toArray = ls at hl ⊢
  have hl : lv_has ls 2 [(0, .ref (x 0))] := hl
  obtain ⟨F, hF⟩ : ∃ F, f_X7_behindOne u = F := ⟨_, rfl⟩
  rw [hF]
  have loop : ∀ (n : Nat), (∀ (u : MS) (a1 : Int32) (H : Heap) (locs : List Loc) (ls : Array Slot), f_X7_behindOne_L n u a1 = F → ok_X7_behindOne_L n u a1 → va_P (dC, dI) vwCl (wM x cI cZ u) H → va_S (g_bA 7 x) s.heap H locs → lv_has ls 2 [(0, .ref (x 0)), (1, .int a1)] → W p l e (headSpec (.code yX7_behindOne cX7_behindOne 2 (some .int) :: gtbl) { frames := 2, cells := 0, slots := 0, locals := 42 }).room s m ([.ref (x 0)] : List Value).toArray below meth c H locs 0 0 (MQ below (va_Qi (fun r1 v1 => r1 = F.1 ∧ v1 = F.2) (fun v1 t => va_P (dC, dI) vwCl (wM x cI cZ v1) t.heap) (g_bA 7 x)) ([.ref (x 0)] : List Value).toArray s 0 0 (g_bA 7 x)) (F0 m 45 ls [])) := by
    intro n
    induction n with
    | zero => intro u a1 H locs ls hF hok; exact hok.elim
    | succ n ih =>
      intro u a1 H locs ls hF hok hP hS hl
      refine lv_iload_n hx hb dX7_behindOne_45 rfl (lv_at hl 1 rfl) ?_
      refine lv_bipush (v := 8) hx hb dX7_behindOne_46 (by decide) ?_
      refine lv_icmp_ge (tgt := 85) hx hb dX7_behindOne_48 (by decide) (fun c30 => ?_) (fun c30 => ?_)
      · have hF := (if_pos c30).symm.trans hF
        have hok := Eq.mp (if_pos c30) hok
        refine lv_aload_n hx hb dX7_behindOne_85 rfl (lv_at hl 0 rfl) ?_
        refine lv_iconst (v := 1) hx hb dX7_behindOne_86 (by decide) ?_
        refine pu_X7_fetched hi hx hb hg hown kf_X7_133 hK hP hS rfl rfl dX7_behindOne_87 (fun H locs hP hS => ?_)
        refine lv_aload_n hx hb dX7_behindOne_90 rfl (lv_at hl 0 rfl) ?_
        refine ge_X7_s hx hb hg hown kf_X7_13 hK hP dX7_behindOne_91 ?_
        refine lv_bipush (v := 23) hx hb dX7_behindOne_94 (by decide) ?_
        refine lv_iconst (v := 0) hx hb dX7_behindOne_96 (by decide) ?_
        refine mac_s 23 (by decide) hi hx hb hK hP hS dX7_behindOne_97 (fun H locs hP hS => ?_)
        refine lv_bipush (v := 8) hx hb dX7_behindOne_98 (by decide) ?_
        have hF : (_, _) = F := hF
        exact g_iret hx hb hr hlocks hP hS dX7_behindOne_100 (g_p1 hF) (g_p2 hF)
      · have hF := (if_neg c30).symm.trans hF
        have hok := Eq.mp (if_neg c30) hok
        refine lv_aload_n hx hb dX7_behindOne_51 rfl (lv_at hl 0 rfl) ?_
        refine ge_X7_shown hx hb hg hown kf_X7_26 hK hP dX7_behindOne_52 ?_
        refine lv_bipush (v := 8) hx hb dX7_behindOne_55 (by decide) ?_
        refine lv_aload_n hx hb dX7_behindOne_57 rfl (lv_at hl 0 rfl) ?_
        refine ge_X7_line hx hb hg hown kf_X7_59 hK hP dX7_behindOne_58 ?_
        refine lv_bipush (v := 64) hx hb dX7_behindOne_61 (by decide) ?_
        refine lv_isub hx hb dX7_behindOne_63 ?_
        refine lv_imul hx hb dX7_behindOne_64 ?_
        refine lv_iload_n hx hb dX7_behindOne_65 rfl (lv_at hl 1 rfl) ?_
        refine lv_iadd hx hb dX7_behindOne_66 ?_
        refine lv_aload_n hx hb dX7_behindOne_67 rfl (lv_at hl 0 rfl) ?_
        refine lv_iconst (v := 0) hx hb dX7_behindOne_68 (by decide) ?_
        obtain ⟨c31, hok⟩ := hok
        refine g_Vi hx hb hml hown hg (c_X7_m l dC dI cI cZ x hi _ _ c31) cs_X7_47 rfl rfl ⟨Nat.le_of_ble_eq_true rfl, Nat.le_of_ble_eq_true rfl⟩ hK hP hS (q0 := 0) rfl rfl rfl hl.1 rfl (Nat.le_of_ble_eq_true rfl) dX7_behindOne_69 ⟨Nat.zero_le _, Nat.zero_le _⟩ (fun H locs hP hS => ?_)
        obtain ⟨c32, hok⟩ := hok
        refine ma_shown hi hx hb hK hP hS c32 dX7_behindOne_72 (fun H locs hP hS => ?_)
        refine lv_aload_n hx hb dX7_behindOne_73 rfl (lv_at hl 0 rfl) ?_
        refine lv_iconst (v := 0) hx hb dX7_behindOne_74 (by decide) ?_
        refine lv_iconst (v := 1) hx hb dX7_behindOne_75 (by decide) ?_
        obtain ⟨c33, hok⟩ := hok
        refine g_Vv hx hb hml hown hg (c_X7_grow l dC dI cI cZ x hi _ _ _ c33) cs_X7_50 rfl rfl ⟨Nat.le_of_ble_eq_true rfl, Nat.le_of_ble_eq_true rfl⟩ hK hP hS (q0 := 0) rfl rfl rfl hl.1 rfl (Nat.le_of_ble_eq_true rfl) dX7_behindOne_76 ⟨Nat.zero_le _, Nat.zero_le _⟩ (fun H locs hP hS => ?_)
        refine lv_iinc hx hb dX7_behindOne_79 hl (k := 1) rfl rfl (by decide) rfl (fun ls hl => ?_)
        have hl : lv_has ls 2 [(1, _), (0, _)] := hl
        refine lv_goto (tgt := 45) hx hb dX7_behindOne_82 (by decide) ?_
        exact ih _ _ _ _ _ hF hok hP hS (lv_sub hl [1, 0] rfl)
  refine lv_aload_n hx hb dX7_behindOne_0 rfl (lv_at hl 0 rfl) ?_
  refine ge_X7_on hx hb hg hown kf_X7_55 hK hP dX7_behindOne_1 ?_
  refine lv_if_ne (tgt := 9) hx hb dX7_behindOne_4 (by decide) (fun c1 => ?_) (fun c1 => ?_)
  · have hF := (if_neg c1).symm.trans hF
    have hok := Eq.mp (if_neg c1) hok
    refine lv_aload_n hx hb dX7_behindOne_9 rfl (lv_at hl 0 rfl) ?_
    refine ge_X7_line hx hb hg hown kf_X7_59 hK hP dX7_behindOne_10 ?_
    refine lv_bipush (v := 64) hx hb dX7_behindOne_13 (by decide) ?_
    refine lv_icmp_lt (tgt := 101) hx hb dX7_behindOne_15 (by decide) (fun c2 => ?_) (fun c2 => ?_)
    · have hF := (if_pos c2).symm.trans hF
      have hok := Eq.mp (if_pos c2) hok
      refine lv_aload_n hx hb dX7_behindOne_101 rfl (lv_at hl 0 rfl) ?_
      refine ge_X7_line hx hb hg hown kf_X7_59 hK hP dX7_behindOne_102 ?_
      refine lv_bipush (v := 62) hx hb dX7_behindOne_105 (by decide) ?_
      refine lv_icmp_eq (tgt := 119) hx hb dX7_behindOne_107 (by decide) (fun c3 => ?_) (fun c3 => ?_)
      · have hF := (if_pos c3).symm.trans hF
        have hok := Eq.mp (if_pos c3) hok
        refine lv_aload_n hx hb dX7_behindOne_119 rfl (lv_at hl 0 rfl) ?_
        refine ge_X7_s hx hb hg hown kf_X7_13 hK hP dX7_behindOne_120 ?_
        refine lv_bipush (v := 21) hx hb dX7_behindOne_123 (by decide) ?_
        refine mlc_s 21 (by decide) hx hb hK hP dX7_behindOne_125 ?_
        refine lv_iconst (v := 1) hx hb dX7_behindOne_126 (by decide) ?_
        refine lv_icmp_ne (tgt := 201) hx hb dX7_behindOne_127 (by decide) (fun c4 => ?_) (fun c4 => ?_)
        · have hF := (if_neg c4).symm.trans hF
          have hok := Eq.mp (if_neg c4) hok
          refine lv_iconst (v := 0) hx hb dX7_behindOne_201 (by decide) ?_
          have hF : (_, _) = F := hF
          exact g_iret hx hb hr hlocks hP hS dX7_behindOne_202 (g_p1 hF) (g_p2 hF)
        · have hF := (if_pos c4).symm.trans hF
          have hok := Eq.mp (if_pos c4) hok
          refine lv_aload_n hx hb dX7_behindOne_130 rfl (lv_at hl 0 rfl) ?_
          refine ge_X7_interrupted hx hb hg hown kf_X7_136 hK hP dX7_behindOne_131 ?_
          refine lv_if_ne (tgt := 201) hx hb dX7_behindOne_134 (by decide) (fun c5 => ?_) (fun c5 => ?_)
          · have hF := (if_neg c5).symm.trans hF
            have hok := Eq.mp (if_neg c5) hok
            refine lv_iconst (v := 0) hx hb dX7_behindOne_201 (by decide) ?_
            have hF : (_, _) = F := hF
            exact g_iret hx hb hr hlocks hP hS dX7_behindOne_202 (g_p1 hF) (g_p2 hF)
          · have hF := (if_pos c5).symm.trans hF
            have hok := Eq.mp (if_pos c5) hok
            refine lv_aload_n hx hb dX7_behindOne_137 rfl (lv_at hl 0 rfl) ?_
            refine ge_X7_s hx hb hg hown kf_X7_13 hK hP dX7_behindOne_138 ?_
            refine lv_bipush (v := 20) hx hb dX7_behindOne_141 (by decide) ?_
            refine lv_bipush (v := 16) hx hb dX7_behindOne_143 (by decide) ?_
            refine lv_aload_n hx hb dX7_behindOne_145 rfl (lv_at hl 0 rfl) ?_
            refine ge_X7_s hx hb hg hown kf_X7_13 hK hP dX7_behindOne_146 ?_
            refine lv_bipush (v := 19) hx hb dX7_behindOne_149 (by decide) ?_
            refine mlc_s 19 (by decide) hx hb hK hP dX7_behindOne_151 ?_
            refine lv_imul hx hb dX7_behindOne_152 ?_
            refine lv_aload_n hx hb dX7_behindOne_153 rfl (lv_at hl 0 rfl) ?_
            refine ge_X7_s hx hb hg hown kf_X7_13 hK hP dX7_behindOne_154 ?_
            refine lv_bipush (v := 18) hx hb dX7_behindOne_157 (by decide) ?_
            refine mlc_s 18 (by decide) hx hb hK hP dX7_behindOne_159 ?_
            refine lv_iadd hx hb dX7_behindOne_160 ?_
            refine mac_s 20 (by decide) hi hx hb hK hP hS dX7_behindOne_161 (fun H locs hP hS => ?_)
            refine lv_aload_n hx hb dX7_behindOne_162 rfl (lv_at hl 0 rfl) ?_
            refine ge_X7_s hx hb hg hown kf_X7_13 hK hP dX7_behindOne_163 ?_
            refine lv_bipush (v := 19) hx hb dX7_behindOne_166 (by decide) ?_
            refine lv_iconst (v := 2) hx hb dX7_behindOne_168 (by decide) ?_
            refine mac_s 19 (by decide) hi hx hb hK hP hS dX7_behindOne_169 (fun H locs hP hS => ?_)
            refine lv_aload_n hx hb dX7_behindOne_170 rfl (lv_at hl 0 rfl) ?_
            refine ge_X7_s hx hb hg hown kf_X7_13 hK hP dX7_behindOne_171 ?_
            refine lv_bipush (v := 18) hx hb dX7_behindOne_174 (by decide) ?_
            refine lv_iconst (v := 1) hx hb dX7_behindOne_176 (by decide) ?_
            refine mac_s 18 (by decide) hi hx hb hK hP hS dX7_behindOne_177 (fun H locs hP hS => ?_)
            refine lv_aload_n hx hb dX7_behindOne_178 rfl (lv_at hl 0 rfl) ?_
            refine ge_X7_s hx hb hg hown kf_X7_13 hK hP dX7_behindOne_179 ?_
            refine lv_bipush (v := 21) hx hb dX7_behindOne_182 (by decide) ?_
            refine lv_iconst (v := 0) hx hb dX7_behindOne_184 (by decide) ?_
            refine mac_s 21 (by decide) hi hx hb hK hP hS dX7_behindOne_185 (fun H locs hP hS => ?_)
            refine lv_aload_n hx hb dX7_behindOne_186 rfl (lv_at hl 0 rfl) ?_
            refine ge_X7_s hx hb hg hown kf_X7_13 hK hP dX7_behindOne_187 ?_
            refine lv_bipush (v := 23) hx hb dX7_behindOne_190 (by decide) ?_
            refine lv_iconst (v := 0) hx hb dX7_behindOne_192 (by decide) ?_
            refine mac_s 23 (by decide) hi hx hb hK hP hS dX7_behindOne_193 (fun H locs hP hS => ?_)
            refine lv_aload_n hx hb dX7_behindOne_194 rfl (lv_at hl 0 rfl) ?_
            refine lv_iconst (v := 1) hx hb dX7_behindOne_195 (by decide) ?_
            refine pu_X7_interrupted hi hx hb hg hown kf_X7_136 hK hP hS rfl rfl dX7_behindOne_196 (fun H locs hP hS => ?_)
            refine lv_iconst (v := 1) hx hb dX7_behindOne_199 (by decide) ?_
            have hF : (_, _) = F := hF
            exact g_iret hx hb hr hlocks hP hS dX7_behindOne_200 (g_p1 hF) (g_p2 hF)
      · have hF := (if_neg c3).symm.trans hF
        have hok := Eq.mp (if_neg c3) hok
        refine lv_aload_n hx hb dX7_behindOne_110 rfl (lv_at hl 0 rfl) ?_
        refine ge_X7_line hx hb hg hown kf_X7_59 hK hP dX7_behindOne_111 ?_
        refine lv_bipush (v := 63) hx hb dX7_behindOne_114 (by decide) ?_
        refine lv_icmp_ne (tgt := 201) hx hb dX7_behindOne_116 (by decide) (fun c6 => ?_) (fun c6 => ?_)
        · have hF := (if_neg c6).symm.trans hF
          have hok := Eq.mp (if_neg c6) hok
          refine lv_iconst (v := 0) hx hb dX7_behindOne_201 (by decide) ?_
          have hF : (_, _) = F := hF
          exact g_iret hx hb hr hlocks hP hS dX7_behindOne_202 (g_p1 hF) (g_p2 hF)
        · have hF := (if_pos c6).symm.trans hF
          have hok := Eq.mp (if_pos c6) hok
          refine lv_aload_n hx hb dX7_behindOne_119 rfl (lv_at hl 0 rfl) ?_
          refine ge_X7_s hx hb hg hown kf_X7_13 hK hP dX7_behindOne_120 ?_
          refine lv_bipush (v := 21) hx hb dX7_behindOne_123 (by decide) ?_
          refine mlc_s 21 (by decide) hx hb hK hP dX7_behindOne_125 ?_
          refine lv_iconst (v := 1) hx hb dX7_behindOne_126 (by decide) ?_
          refine lv_icmp_ne (tgt := 201) hx hb dX7_behindOne_127 (by decide) (fun c7 => ?_) (fun c7 => ?_)
          · have hF := (if_neg c7).symm.trans hF
            have hok := Eq.mp (if_neg c7) hok
            refine lv_iconst (v := 0) hx hb dX7_behindOne_201 (by decide) ?_
            have hF : (_, _) = F := hF
            exact g_iret hx hb hr hlocks hP hS dX7_behindOne_202 (g_p1 hF) (g_p2 hF)
          · have hF := (if_pos c7).symm.trans hF
            have hok := Eq.mp (if_pos c7) hok
            refine lv_aload_n hx hb dX7_behindOne_130 rfl (lv_at hl 0 rfl) ?_
            refine ge_X7_interrupted hx hb hg hown kf_X7_136 hK hP dX7_behindOne_131 ?_
            refine lv_if_ne (tgt := 201) hx hb dX7_behindOne_134 (by decide) (fun c8 => ?_) (fun c8 => ?_)
            · have hF := (if_neg c8).symm.trans hF
              have hok := Eq.mp (if_neg c8) hok
              refine lv_iconst (v := 0) hx hb dX7_behindOne_201 (by decide) ?_
              have hF : (_, _) = F := hF
              exact g_iret hx hb hr hlocks hP hS dX7_behindOne_202 (g_p1 hF) (g_p2 hF)
            · have hF := (if_pos c8).symm.trans hF
              have hok := Eq.mp (if_pos c8) hok
              refine lv_aload_n hx hb dX7_behindOne_137 rfl (lv_at hl 0 rfl) ?_
              refine ge_X7_s hx hb hg hown kf_X7_13 hK hP dX7_behindOne_138 ?_
              refine lv_bipush (v := 20) hx hb dX7_behindOne_141 (by decide) ?_
              refine lv_bipush (v := 16) hx hb dX7_behindOne_143 (by decide) ?_
              refine lv_aload_n hx hb dX7_behindOne_145 rfl (lv_at hl 0 rfl) ?_
              refine ge_X7_s hx hb hg hown kf_X7_13 hK hP dX7_behindOne_146 ?_
              refine lv_bipush (v := 19) hx hb dX7_behindOne_149 (by decide) ?_
              refine mlc_s 19 (by decide) hx hb hK hP dX7_behindOne_151 ?_
              refine lv_imul hx hb dX7_behindOne_152 ?_
              refine lv_aload_n hx hb dX7_behindOne_153 rfl (lv_at hl 0 rfl) ?_
              refine ge_X7_s hx hb hg hown kf_X7_13 hK hP dX7_behindOne_154 ?_
              refine lv_bipush (v := 18) hx hb dX7_behindOne_157 (by decide) ?_
              refine mlc_s 18 (by decide) hx hb hK hP dX7_behindOne_159 ?_
              refine lv_iadd hx hb dX7_behindOne_160 ?_
              refine mac_s 20 (by decide) hi hx hb hK hP hS dX7_behindOne_161 (fun H locs hP hS => ?_)
              refine lv_aload_n hx hb dX7_behindOne_162 rfl (lv_at hl 0 rfl) ?_
              refine ge_X7_s hx hb hg hown kf_X7_13 hK hP dX7_behindOne_163 ?_
              refine lv_bipush (v := 19) hx hb dX7_behindOne_166 (by decide) ?_
              refine lv_iconst (v := 2) hx hb dX7_behindOne_168 (by decide) ?_
              refine mac_s 19 (by decide) hi hx hb hK hP hS dX7_behindOne_169 (fun H locs hP hS => ?_)
              refine lv_aload_n hx hb dX7_behindOne_170 rfl (lv_at hl 0 rfl) ?_
              refine ge_X7_s hx hb hg hown kf_X7_13 hK hP dX7_behindOne_171 ?_
              refine lv_bipush (v := 18) hx hb dX7_behindOne_174 (by decide) ?_
              refine lv_iconst (v := 1) hx hb dX7_behindOne_176 (by decide) ?_
              refine mac_s 18 (by decide) hi hx hb hK hP hS dX7_behindOne_177 (fun H locs hP hS => ?_)
              refine lv_aload_n hx hb dX7_behindOne_178 rfl (lv_at hl 0 rfl) ?_
              refine ge_X7_s hx hb hg hown kf_X7_13 hK hP dX7_behindOne_179 ?_
              refine lv_bipush (v := 21) hx hb dX7_behindOne_182 (by decide) ?_
              refine lv_iconst (v := 0) hx hb dX7_behindOne_184 (by decide) ?_
              refine mac_s 21 (by decide) hi hx hb hK hP hS dX7_behindOne_185 (fun H locs hP hS => ?_)
              refine lv_aload_n hx hb dX7_behindOne_186 rfl (lv_at hl 0 rfl) ?_
              refine ge_X7_s hx hb hg hown kf_X7_13 hK hP dX7_behindOne_187 ?_
              refine lv_bipush (v := 23) hx hb dX7_behindOne_190 (by decide) ?_
              refine lv_iconst (v := 0) hx hb dX7_behindOne_192 (by decide) ?_
              refine mac_s 23 (by decide) hi hx hb hK hP hS dX7_behindOne_193 (fun H locs hP hS => ?_)
              refine lv_aload_n hx hb dX7_behindOne_194 rfl (lv_at hl 0 rfl) ?_
              refine lv_iconst (v := 1) hx hb dX7_behindOne_195 (by decide) ?_
              refine pu_X7_interrupted hi hx hb hg hown kf_X7_136 hK hP hS rfl rfl dX7_behindOne_196 (fun H locs hP hS => ?_)
              refine lv_iconst (v := 1) hx hb dX7_behindOne_199 (by decide) ?_
              have hF : (_, _) = F := hF
              exact g_iret hx hb hr hlocks hP hS dX7_behindOne_200 (g_p1 hF) (g_p2 hF)
    · have hF := (if_neg c2).symm.trans hF
      have hok := Eq.mp (if_neg c2) hok
      refine lv_aload_n hx hb dX7_behindOne_18 rfl (lv_at hl 0 rfl) ?_
      refine ge_X7_line hx hb hg hown kf_X7_59 hK hP dX7_behindOne_19 ?_
      refine lv_sipush (v := 192) hx hb dX7_behindOne_22 (by decide) ?_
      refine lv_icmp_ge (tgt := 101) hx hb dX7_behindOne_25 (by decide) (fun c9 => ?_) (fun c9 => ?_)
      · have hF := (if_pos c9).symm.trans hF
        have hok := Eq.mp (if_pos c9) hok
        refine lv_aload_n hx hb dX7_behindOne_101 rfl (lv_at hl 0 rfl) ?_
        refine ge_X7_line hx hb hg hown kf_X7_59 hK hP dX7_behindOne_102 ?_
        refine lv_bipush (v := 62) hx hb dX7_behindOne_105 (by decide) ?_
        refine lv_icmp_eq (tgt := 119) hx hb dX7_behindOne_107 (by decide) (fun c10 => ?_) (fun c10 => ?_)
        · have hF := (if_pos c10).symm.trans hF
          have hok := Eq.mp (if_pos c10) hok
          refine lv_aload_n hx hb dX7_behindOne_119 rfl (lv_at hl 0 rfl) ?_
          refine ge_X7_s hx hb hg hown kf_X7_13 hK hP dX7_behindOne_120 ?_
          refine lv_bipush (v := 21) hx hb dX7_behindOne_123 (by decide) ?_
          refine mlc_s 21 (by decide) hx hb hK hP dX7_behindOne_125 ?_
          refine lv_iconst (v := 1) hx hb dX7_behindOne_126 (by decide) ?_
          refine lv_icmp_ne (tgt := 201) hx hb dX7_behindOne_127 (by decide) (fun c11 => ?_) (fun c11 => ?_)
          · have hF := (if_neg c11).symm.trans hF
            have hok := Eq.mp (if_neg c11) hok
            refine lv_iconst (v := 0) hx hb dX7_behindOne_201 (by decide) ?_
            have hF : (_, _) = F := hF
            exact g_iret hx hb hr hlocks hP hS dX7_behindOne_202 (g_p1 hF) (g_p2 hF)
          · have hF := (if_pos c11).symm.trans hF
            have hok := Eq.mp (if_pos c11) hok
            refine lv_aload_n hx hb dX7_behindOne_130 rfl (lv_at hl 0 rfl) ?_
            refine ge_X7_interrupted hx hb hg hown kf_X7_136 hK hP dX7_behindOne_131 ?_
            refine lv_if_ne (tgt := 201) hx hb dX7_behindOne_134 (by decide) (fun c12 => ?_) (fun c12 => ?_)
            · have hF := (if_neg c12).symm.trans hF
              have hok := Eq.mp (if_neg c12) hok
              refine lv_iconst (v := 0) hx hb dX7_behindOne_201 (by decide) ?_
              have hF : (_, _) = F := hF
              exact g_iret hx hb hr hlocks hP hS dX7_behindOne_202 (g_p1 hF) (g_p2 hF)
            · have hF := (if_pos c12).symm.trans hF
              have hok := Eq.mp (if_pos c12) hok
              refine lv_aload_n hx hb dX7_behindOne_137 rfl (lv_at hl 0 rfl) ?_
              refine ge_X7_s hx hb hg hown kf_X7_13 hK hP dX7_behindOne_138 ?_
              refine lv_bipush (v := 20) hx hb dX7_behindOne_141 (by decide) ?_
              refine lv_bipush (v := 16) hx hb dX7_behindOne_143 (by decide) ?_
              refine lv_aload_n hx hb dX7_behindOne_145 rfl (lv_at hl 0 rfl) ?_
              refine ge_X7_s hx hb hg hown kf_X7_13 hK hP dX7_behindOne_146 ?_
              refine lv_bipush (v := 19) hx hb dX7_behindOne_149 (by decide) ?_
              refine mlc_s 19 (by decide) hx hb hK hP dX7_behindOne_151 ?_
              refine lv_imul hx hb dX7_behindOne_152 ?_
              refine lv_aload_n hx hb dX7_behindOne_153 rfl (lv_at hl 0 rfl) ?_
              refine ge_X7_s hx hb hg hown kf_X7_13 hK hP dX7_behindOne_154 ?_
              refine lv_bipush (v := 18) hx hb dX7_behindOne_157 (by decide) ?_
              refine mlc_s 18 (by decide) hx hb hK hP dX7_behindOne_159 ?_
              refine lv_iadd hx hb dX7_behindOne_160 ?_
              refine mac_s 20 (by decide) hi hx hb hK hP hS dX7_behindOne_161 (fun H locs hP hS => ?_)
              refine lv_aload_n hx hb dX7_behindOne_162 rfl (lv_at hl 0 rfl) ?_
              refine ge_X7_s hx hb hg hown kf_X7_13 hK hP dX7_behindOne_163 ?_
              refine lv_bipush (v := 19) hx hb dX7_behindOne_166 (by decide) ?_
              refine lv_iconst (v := 2) hx hb dX7_behindOne_168 (by decide) ?_
              refine mac_s 19 (by decide) hi hx hb hK hP hS dX7_behindOne_169 (fun H locs hP hS => ?_)
              refine lv_aload_n hx hb dX7_behindOne_170 rfl (lv_at hl 0 rfl) ?_
              refine ge_X7_s hx hb hg hown kf_X7_13 hK hP dX7_behindOne_171 ?_
              refine lv_bipush (v := 18) hx hb dX7_behindOne_174 (by decide) ?_
              refine lv_iconst (v := 1) hx hb dX7_behindOne_176 (by decide) ?_
              refine mac_s 18 (by decide) hi hx hb hK hP hS dX7_behindOne_177 (fun H locs hP hS => ?_)
              refine lv_aload_n hx hb dX7_behindOne_178 rfl (lv_at hl 0 rfl) ?_
              refine ge_X7_s hx hb hg hown kf_X7_13 hK hP dX7_behindOne_179 ?_
              refine lv_bipush (v := 21) hx hb dX7_behindOne_182 (by decide) ?_
              refine lv_iconst (v := 0) hx hb dX7_behindOne_184 (by decide) ?_
              refine mac_s 21 (by decide) hi hx hb hK hP hS dX7_behindOne_185 (fun H locs hP hS => ?_)
              refine lv_aload_n hx hb dX7_behindOne_186 rfl (lv_at hl 0 rfl) ?_
              refine ge_X7_s hx hb hg hown kf_X7_13 hK hP dX7_behindOne_187 ?_
              refine lv_bipush (v := 23) hx hb dX7_behindOne_190 (by decide) ?_
              refine lv_iconst (v := 0) hx hb dX7_behindOne_192 (by decide) ?_
              refine mac_s 23 (by decide) hi hx hb hK hP hS dX7_behindOne_193 (fun H locs hP hS => ?_)
              refine lv_aload_n hx hb dX7_behindOne_194 rfl (lv_at hl 0 rfl) ?_
              refine lv_iconst (v := 1) hx hb dX7_behindOne_195 (by decide) ?_
              refine pu_X7_interrupted hi hx hb hg hown kf_X7_136 hK hP hS rfl rfl dX7_behindOne_196 (fun H locs hP hS => ?_)
              refine lv_iconst (v := 1) hx hb dX7_behindOne_199 (by decide) ?_
              have hF : (_, _) = F := hF
              exact g_iret hx hb hr hlocks hP hS dX7_behindOne_200 (g_p1 hF) (g_p2 hF)
        · have hF := (if_neg c10).symm.trans hF
          have hok := Eq.mp (if_neg c10) hok
          refine lv_aload_n hx hb dX7_behindOne_110 rfl (lv_at hl 0 rfl) ?_
          refine ge_X7_line hx hb hg hown kf_X7_59 hK hP dX7_behindOne_111 ?_
          refine lv_bipush (v := 63) hx hb dX7_behindOne_114 (by decide) ?_
          refine lv_icmp_ne (tgt := 201) hx hb dX7_behindOne_116 (by decide) (fun c13 => ?_) (fun c13 => ?_)
          · have hF := (if_neg c13).symm.trans hF
            have hok := Eq.mp (if_neg c13) hok
            refine lv_iconst (v := 0) hx hb dX7_behindOne_201 (by decide) ?_
            have hF : (_, _) = F := hF
            exact g_iret hx hb hr hlocks hP hS dX7_behindOne_202 (g_p1 hF) (g_p2 hF)
          · have hF := (if_pos c13).symm.trans hF
            have hok := Eq.mp (if_pos c13) hok
            refine lv_aload_n hx hb dX7_behindOne_119 rfl (lv_at hl 0 rfl) ?_
            refine ge_X7_s hx hb hg hown kf_X7_13 hK hP dX7_behindOne_120 ?_
            refine lv_bipush (v := 21) hx hb dX7_behindOne_123 (by decide) ?_
            refine mlc_s 21 (by decide) hx hb hK hP dX7_behindOne_125 ?_
            refine lv_iconst (v := 1) hx hb dX7_behindOne_126 (by decide) ?_
            refine lv_icmp_ne (tgt := 201) hx hb dX7_behindOne_127 (by decide) (fun c14 => ?_) (fun c14 => ?_)
            · have hF := (if_neg c14).symm.trans hF
              have hok := Eq.mp (if_neg c14) hok
              refine lv_iconst (v := 0) hx hb dX7_behindOne_201 (by decide) ?_
              have hF : (_, _) = F := hF
              exact g_iret hx hb hr hlocks hP hS dX7_behindOne_202 (g_p1 hF) (g_p2 hF)
            · have hF := (if_pos c14).symm.trans hF
              have hok := Eq.mp (if_pos c14) hok
              refine lv_aload_n hx hb dX7_behindOne_130 rfl (lv_at hl 0 rfl) ?_
              refine ge_X7_interrupted hx hb hg hown kf_X7_136 hK hP dX7_behindOne_131 ?_
              refine lv_if_ne (tgt := 201) hx hb dX7_behindOne_134 (by decide) (fun c15 => ?_) (fun c15 => ?_)
              · have hF := (if_neg c15).symm.trans hF
                have hok := Eq.mp (if_neg c15) hok
                refine lv_iconst (v := 0) hx hb dX7_behindOne_201 (by decide) ?_
                have hF : (_, _) = F := hF
                exact g_iret hx hb hr hlocks hP hS dX7_behindOne_202 (g_p1 hF) (g_p2 hF)
              · have hF := (if_pos c15).symm.trans hF
                have hok := Eq.mp (if_pos c15) hok
                refine lv_aload_n hx hb dX7_behindOne_137 rfl (lv_at hl 0 rfl) ?_
                refine ge_X7_s hx hb hg hown kf_X7_13 hK hP dX7_behindOne_138 ?_
                refine lv_bipush (v := 20) hx hb dX7_behindOne_141 (by decide) ?_
                refine lv_bipush (v := 16) hx hb dX7_behindOne_143 (by decide) ?_
                refine lv_aload_n hx hb dX7_behindOne_145 rfl (lv_at hl 0 rfl) ?_
                refine ge_X7_s hx hb hg hown kf_X7_13 hK hP dX7_behindOne_146 ?_
                refine lv_bipush (v := 19) hx hb dX7_behindOne_149 (by decide) ?_
                refine mlc_s 19 (by decide) hx hb hK hP dX7_behindOne_151 ?_
                refine lv_imul hx hb dX7_behindOne_152 ?_
                refine lv_aload_n hx hb dX7_behindOne_153 rfl (lv_at hl 0 rfl) ?_
                refine ge_X7_s hx hb hg hown kf_X7_13 hK hP dX7_behindOne_154 ?_
                refine lv_bipush (v := 18) hx hb dX7_behindOne_157 (by decide) ?_
                refine mlc_s 18 (by decide) hx hb hK hP dX7_behindOne_159 ?_
                refine lv_iadd hx hb dX7_behindOne_160 ?_
                refine mac_s 20 (by decide) hi hx hb hK hP hS dX7_behindOne_161 (fun H locs hP hS => ?_)
                refine lv_aload_n hx hb dX7_behindOne_162 rfl (lv_at hl 0 rfl) ?_
                refine ge_X7_s hx hb hg hown kf_X7_13 hK hP dX7_behindOne_163 ?_
                refine lv_bipush (v := 19) hx hb dX7_behindOne_166 (by decide) ?_
                refine lv_iconst (v := 2) hx hb dX7_behindOne_168 (by decide) ?_
                refine mac_s 19 (by decide) hi hx hb hK hP hS dX7_behindOne_169 (fun H locs hP hS => ?_)
                refine lv_aload_n hx hb dX7_behindOne_170 rfl (lv_at hl 0 rfl) ?_
                refine ge_X7_s hx hb hg hown kf_X7_13 hK hP dX7_behindOne_171 ?_
                refine lv_bipush (v := 18) hx hb dX7_behindOne_174 (by decide) ?_
                refine lv_iconst (v := 1) hx hb dX7_behindOne_176 (by decide) ?_
                refine mac_s 18 (by decide) hi hx hb hK hP hS dX7_behindOne_177 (fun H locs hP hS => ?_)
                refine lv_aload_n hx hb dX7_behindOne_178 rfl (lv_at hl 0 rfl) ?_
                refine ge_X7_s hx hb hg hown kf_X7_13 hK hP dX7_behindOne_179 ?_
                refine lv_bipush (v := 21) hx hb dX7_behindOne_182 (by decide) ?_
                refine lv_iconst (v := 0) hx hb dX7_behindOne_184 (by decide) ?_
                refine mac_s 21 (by decide) hi hx hb hK hP hS dX7_behindOne_185 (fun H locs hP hS => ?_)
                refine lv_aload_n hx hb dX7_behindOne_186 rfl (lv_at hl 0 rfl) ?_
                refine ge_X7_s hx hb hg hown kf_X7_13 hK hP dX7_behindOne_187 ?_
                refine lv_bipush (v := 23) hx hb dX7_behindOne_190 (by decide) ?_
                refine lv_iconst (v := 0) hx hb dX7_behindOne_192 (by decide) ?_
                refine mac_s 23 (by decide) hi hx hb hK hP hS dX7_behindOne_193 (fun H locs hP hS => ?_)
                refine lv_aload_n hx hb dX7_behindOne_194 rfl (lv_at hl 0 rfl) ?_
                refine lv_iconst (v := 1) hx hb dX7_behindOne_195 (by decide) ?_
                refine pu_X7_interrupted hi hx hb hg hown kf_X7_136 hK hP hS rfl rfl dX7_behindOne_196 (fun H locs hP hS => ?_)
                refine lv_iconst (v := 1) hx hb dX7_behindOne_199 (by decide) ?_
                have hF : (_, _) = F := hF
                exact g_iret hx hb hr hlocks hP hS dX7_behindOne_200 (g_p1 hF) (g_p2 hF)
      · have hF := (if_neg c9).symm.trans hF
        have hok := Eq.mp (if_neg c9) hok
        refine lv_aload_n hx hb dX7_behindOne_28 rfl (lv_at hl 0 rfl) ?_
        refine ge_X7_fetched hx hb hg hown kf_X7_133 hK hP dX7_behindOne_29 ?_
        refine lv_if_ne (tgt := 101) hx hb dX7_behindOne_32 (by decide) (fun c16 => ?_) (fun c16 => ?_)
        · have hF := (if_neg c16).symm.trans hF
          have hok := Eq.mp (if_neg c16) hok
          refine lv_aload_n hx hb dX7_behindOne_101 rfl (lv_at hl 0 rfl) ?_
          refine ge_X7_line hx hb hg hown kf_X7_59 hK hP dX7_behindOne_102 ?_
          refine lv_bipush (v := 62) hx hb dX7_behindOne_105 (by decide) ?_
          refine lv_icmp_eq (tgt := 119) hx hb dX7_behindOne_107 (by decide) (fun c24 => ?_) (fun c24 => ?_)
          · have hF := (if_pos c24).symm.trans hF
            have hok := Eq.mp (if_pos c24) hok
            refine lv_aload_n hx hb dX7_behindOne_119 rfl (lv_at hl 0 rfl) ?_
            refine ge_X7_s hx hb hg hown kf_X7_13 hK hP dX7_behindOne_120 ?_
            refine lv_bipush (v := 21) hx hb dX7_behindOne_123 (by decide) ?_
            refine mlc_s 21 (by decide) hx hb hK hP dX7_behindOne_125 ?_
            refine lv_iconst (v := 1) hx hb dX7_behindOne_126 (by decide) ?_
            refine lv_icmp_ne (tgt := 201) hx hb dX7_behindOne_127 (by decide) (fun c25 => ?_) (fun c25 => ?_)
            · have hF := (if_neg c25).symm.trans hF
              have hok := Eq.mp (if_neg c25) hok
              refine lv_iconst (v := 0) hx hb dX7_behindOne_201 (by decide) ?_
              have hF : (_, _) = F := hF
              exact g_iret hx hb hr hlocks hP hS dX7_behindOne_202 (g_p1 hF) (g_p2 hF)
            · have hF := (if_pos c25).symm.trans hF
              have hok := Eq.mp (if_pos c25) hok
              refine lv_aload_n hx hb dX7_behindOne_130 rfl (lv_at hl 0 rfl) ?_
              refine ge_X7_interrupted hx hb hg hown kf_X7_136 hK hP dX7_behindOne_131 ?_
              refine lv_if_ne (tgt := 201) hx hb dX7_behindOne_134 (by decide) (fun c26 => ?_) (fun c26 => ?_)
              · have hF := (if_neg c26).symm.trans hF
                have hok := Eq.mp (if_neg c26) hok
                refine lv_iconst (v := 0) hx hb dX7_behindOne_201 (by decide) ?_
                have hF : (_, _) = F := hF
                exact g_iret hx hb hr hlocks hP hS dX7_behindOne_202 (g_p1 hF) (g_p2 hF)
              · have hF := (if_pos c26).symm.trans hF
                have hok := Eq.mp (if_pos c26) hok
                refine lv_aload_n hx hb dX7_behindOne_137 rfl (lv_at hl 0 rfl) ?_
                refine ge_X7_s hx hb hg hown kf_X7_13 hK hP dX7_behindOne_138 ?_
                refine lv_bipush (v := 20) hx hb dX7_behindOne_141 (by decide) ?_
                refine lv_bipush (v := 16) hx hb dX7_behindOne_143 (by decide) ?_
                refine lv_aload_n hx hb dX7_behindOne_145 rfl (lv_at hl 0 rfl) ?_
                refine ge_X7_s hx hb hg hown kf_X7_13 hK hP dX7_behindOne_146 ?_
                refine lv_bipush (v := 19) hx hb dX7_behindOne_149 (by decide) ?_
                refine mlc_s 19 (by decide) hx hb hK hP dX7_behindOne_151 ?_
                refine lv_imul hx hb dX7_behindOne_152 ?_
                refine lv_aload_n hx hb dX7_behindOne_153 rfl (lv_at hl 0 rfl) ?_
                refine ge_X7_s hx hb hg hown kf_X7_13 hK hP dX7_behindOne_154 ?_
                refine lv_bipush (v := 18) hx hb dX7_behindOne_157 (by decide) ?_
                refine mlc_s 18 (by decide) hx hb hK hP dX7_behindOne_159 ?_
                refine lv_iadd hx hb dX7_behindOne_160 ?_
                refine mac_s 20 (by decide) hi hx hb hK hP hS dX7_behindOne_161 (fun H locs hP hS => ?_)
                refine lv_aload_n hx hb dX7_behindOne_162 rfl (lv_at hl 0 rfl) ?_
                refine ge_X7_s hx hb hg hown kf_X7_13 hK hP dX7_behindOne_163 ?_
                refine lv_bipush (v := 19) hx hb dX7_behindOne_166 (by decide) ?_
                refine lv_iconst (v := 2) hx hb dX7_behindOne_168 (by decide) ?_
                refine mac_s 19 (by decide) hi hx hb hK hP hS dX7_behindOne_169 (fun H locs hP hS => ?_)
                refine lv_aload_n hx hb dX7_behindOne_170 rfl (lv_at hl 0 rfl) ?_
                refine ge_X7_s hx hb hg hown kf_X7_13 hK hP dX7_behindOne_171 ?_
                refine lv_bipush (v := 18) hx hb dX7_behindOne_174 (by decide) ?_
                refine lv_iconst (v := 1) hx hb dX7_behindOne_176 (by decide) ?_
                refine mac_s 18 (by decide) hi hx hb hK hP hS dX7_behindOne_177 (fun H locs hP hS => ?_)
                refine lv_aload_n hx hb dX7_behindOne_178 rfl (lv_at hl 0 rfl) ?_
                refine ge_X7_s hx hb hg hown kf_X7_13 hK hP dX7_behindOne_179 ?_
                refine lv_bipush (v := 21) hx hb dX7_behindOne_182 (by decide) ?_
                refine lv_iconst (v := 0) hx hb dX7_behindOne_184 (by decide) ?_
                refine mac_s 21 (by decide) hi hx hb hK hP hS dX7_behindOne_185 (fun H locs hP hS => ?_)
                refine lv_aload_n hx hb dX7_behindOne_186 rfl (lv_at hl 0 rfl) ?_
                refine ge_X7_s hx hb hg hown kf_X7_13 hK hP dX7_behindOne_187 ?_
                refine lv_bipush (v := 23) hx hb dX7_behindOne_190 (by decide) ?_
                refine lv_iconst (v := 0) hx hb dX7_behindOne_192 (by decide) ?_
                refine mac_s 23 (by decide) hi hx hb hK hP hS dX7_behindOne_193 (fun H locs hP hS => ?_)
                refine lv_aload_n hx hb dX7_behindOne_194 rfl (lv_at hl 0 rfl) ?_
                refine lv_iconst (v := 1) hx hb dX7_behindOne_195 (by decide) ?_
                refine pu_X7_interrupted hi hx hb hg hown kf_X7_136 hK hP hS rfl rfl dX7_behindOne_196 (fun H locs hP hS => ?_)
                refine lv_iconst (v := 1) hx hb dX7_behindOne_199 (by decide) ?_
                have hF : (_, _) = F := hF
                exact g_iret hx hb hr hlocks hP hS dX7_behindOne_200 (g_p1 hF) (g_p2 hF)
          · have hF := (if_neg c24).symm.trans hF
            have hok := Eq.mp (if_neg c24) hok
            refine lv_aload_n hx hb dX7_behindOne_110 rfl (lv_at hl 0 rfl) ?_
            refine ge_X7_line hx hb hg hown kf_X7_59 hK hP dX7_behindOne_111 ?_
            refine lv_bipush (v := 63) hx hb dX7_behindOne_114 (by decide) ?_
            refine lv_icmp_ne (tgt := 201) hx hb dX7_behindOne_116 (by decide) (fun c27 => ?_) (fun c27 => ?_)
            · have hF := (if_neg c27).symm.trans hF
              have hok := Eq.mp (if_neg c27) hok
              refine lv_iconst (v := 0) hx hb dX7_behindOne_201 (by decide) ?_
              have hF : (_, _) = F := hF
              exact g_iret hx hb hr hlocks hP hS dX7_behindOne_202 (g_p1 hF) (g_p2 hF)
            · have hF := (if_pos c27).symm.trans hF
              have hok := Eq.mp (if_pos c27) hok
              refine lv_aload_n hx hb dX7_behindOne_119 rfl (lv_at hl 0 rfl) ?_
              refine ge_X7_s hx hb hg hown kf_X7_13 hK hP dX7_behindOne_120 ?_
              refine lv_bipush (v := 21) hx hb dX7_behindOne_123 (by decide) ?_
              refine mlc_s 21 (by decide) hx hb hK hP dX7_behindOne_125 ?_
              refine lv_iconst (v := 1) hx hb dX7_behindOne_126 (by decide) ?_
              refine lv_icmp_ne (tgt := 201) hx hb dX7_behindOne_127 (by decide) (fun c28 => ?_) (fun c28 => ?_)
              · have hF := (if_neg c28).symm.trans hF
                have hok := Eq.mp (if_neg c28) hok
                refine lv_iconst (v := 0) hx hb dX7_behindOne_201 (by decide) ?_
                have hF : (_, _) = F := hF
                exact g_iret hx hb hr hlocks hP hS dX7_behindOne_202 (g_p1 hF) (g_p2 hF)
              · have hF := (if_pos c28).symm.trans hF
                have hok := Eq.mp (if_pos c28) hok
                refine lv_aload_n hx hb dX7_behindOne_130 rfl (lv_at hl 0 rfl) ?_
                refine ge_X7_interrupted hx hb hg hown kf_X7_136 hK hP dX7_behindOne_131 ?_
                refine lv_if_ne (tgt := 201) hx hb dX7_behindOne_134 (by decide) (fun c29 => ?_) (fun c29 => ?_)
                · have hF := (if_neg c29).symm.trans hF
                  have hok := Eq.mp (if_neg c29) hok
                  refine lv_iconst (v := 0) hx hb dX7_behindOne_201 (by decide) ?_
                  have hF : (_, _) = F := hF
                  exact g_iret hx hb hr hlocks hP hS dX7_behindOne_202 (g_p1 hF) (g_p2 hF)
                · have hF := (if_pos c29).symm.trans hF
                  have hok := Eq.mp (if_pos c29) hok
                  refine lv_aload_n hx hb dX7_behindOne_137 rfl (lv_at hl 0 rfl) ?_
                  refine ge_X7_s hx hb hg hown kf_X7_13 hK hP dX7_behindOne_138 ?_
                  refine lv_bipush (v := 20) hx hb dX7_behindOne_141 (by decide) ?_
                  refine lv_bipush (v := 16) hx hb dX7_behindOne_143 (by decide) ?_
                  refine lv_aload_n hx hb dX7_behindOne_145 rfl (lv_at hl 0 rfl) ?_
                  refine ge_X7_s hx hb hg hown kf_X7_13 hK hP dX7_behindOne_146 ?_
                  refine lv_bipush (v := 19) hx hb dX7_behindOne_149 (by decide) ?_
                  refine mlc_s 19 (by decide) hx hb hK hP dX7_behindOne_151 ?_
                  refine lv_imul hx hb dX7_behindOne_152 ?_
                  refine lv_aload_n hx hb dX7_behindOne_153 rfl (lv_at hl 0 rfl) ?_
                  refine ge_X7_s hx hb hg hown kf_X7_13 hK hP dX7_behindOne_154 ?_
                  refine lv_bipush (v := 18) hx hb dX7_behindOne_157 (by decide) ?_
                  refine mlc_s 18 (by decide) hx hb hK hP dX7_behindOne_159 ?_
                  refine lv_iadd hx hb dX7_behindOne_160 ?_
                  refine mac_s 20 (by decide) hi hx hb hK hP hS dX7_behindOne_161 (fun H locs hP hS => ?_)
                  refine lv_aload_n hx hb dX7_behindOne_162 rfl (lv_at hl 0 rfl) ?_
                  refine ge_X7_s hx hb hg hown kf_X7_13 hK hP dX7_behindOne_163 ?_
                  refine lv_bipush (v := 19) hx hb dX7_behindOne_166 (by decide) ?_
                  refine lv_iconst (v := 2) hx hb dX7_behindOne_168 (by decide) ?_
                  refine mac_s 19 (by decide) hi hx hb hK hP hS dX7_behindOne_169 (fun H locs hP hS => ?_)
                  refine lv_aload_n hx hb dX7_behindOne_170 rfl (lv_at hl 0 rfl) ?_
                  refine ge_X7_s hx hb hg hown kf_X7_13 hK hP dX7_behindOne_171 ?_
                  refine lv_bipush (v := 18) hx hb dX7_behindOne_174 (by decide) ?_
                  refine lv_iconst (v := 1) hx hb dX7_behindOne_176 (by decide) ?_
                  refine mac_s 18 (by decide) hi hx hb hK hP hS dX7_behindOne_177 (fun H locs hP hS => ?_)
                  refine lv_aload_n hx hb dX7_behindOne_178 rfl (lv_at hl 0 rfl) ?_
                  refine ge_X7_s hx hb hg hown kf_X7_13 hK hP dX7_behindOne_179 ?_
                  refine lv_bipush (v := 21) hx hb dX7_behindOne_182 (by decide) ?_
                  refine lv_iconst (v := 0) hx hb dX7_behindOne_184 (by decide) ?_
                  refine mac_s 21 (by decide) hi hx hb hK hP hS dX7_behindOne_185 (fun H locs hP hS => ?_)
                  refine lv_aload_n hx hb dX7_behindOne_186 rfl (lv_at hl 0 rfl) ?_
                  refine ge_X7_s hx hb hg hown kf_X7_13 hK hP dX7_behindOne_187 ?_
                  refine lv_bipush (v := 23) hx hb dX7_behindOne_190 (by decide) ?_
                  refine lv_iconst (v := 0) hx hb dX7_behindOne_192 (by decide) ?_
                  refine mac_s 23 (by decide) hi hx hb hK hP hS dX7_behindOne_193 (fun H locs hP hS => ?_)
                  refine lv_aload_n hx hb dX7_behindOne_194 rfl (lv_at hl 0 rfl) ?_
                  refine lv_iconst (v := 1) hx hb dX7_behindOne_195 (by decide) ?_
                  refine pu_X7_interrupted hi hx hb hg hown kf_X7_136 hK hP hS rfl rfl dX7_behindOne_196 (fun H locs hP hS => ?_)
                  refine lv_iconst (v := 1) hx hb dX7_behindOne_199 (by decide) ?_
                  have hF : (_, _) = F := hF
                  exact g_iret hx hb hr hlocks hP hS dX7_behindOne_200 (g_p1 hF) (g_p2 hF)
        · have hF := (if_pos c16).symm.trans hF
          have hok := Eq.mp (if_pos c16) hok
          refine lv_aload_n hx hb dX7_behindOne_35 rfl (lv_at hl 0 rfl) ?_
          refine ge_X7_place hx hb hg hown kf_X7_130 hK hP dX7_behindOne_36 ?_
          refine lv_iconst (v := 2) hx hb dX7_behindOne_39 (by decide) ?_
          refine lv_icmp_lt (tgt := 101) hx hb dX7_behindOne_40 (by decide) (fun c17 => ?_) (fun c17 => ?_)
          · have hF := (if_pos c17).symm.trans hF
            have hok := Eq.mp (if_pos c17) hok
            refine lv_aload_n hx hb dX7_behindOne_101 rfl (lv_at hl 0 rfl) ?_
            refine ge_X7_line hx hb hg hown kf_X7_59 hK hP dX7_behindOne_102 ?_
            refine lv_bipush (v := 62) hx hb dX7_behindOne_105 (by decide) ?_
            refine lv_icmp_eq (tgt := 119) hx hb dX7_behindOne_107 (by decide) (fun c18 => ?_) (fun c18 => ?_)
            · have hF := (if_pos c18).symm.trans hF
              have hok := Eq.mp (if_pos c18) hok
              refine lv_aload_n hx hb dX7_behindOne_119 rfl (lv_at hl 0 rfl) ?_
              refine ge_X7_s hx hb hg hown kf_X7_13 hK hP dX7_behindOne_120 ?_
              refine lv_bipush (v := 21) hx hb dX7_behindOne_123 (by decide) ?_
              refine mlc_s 21 (by decide) hx hb hK hP dX7_behindOne_125 ?_
              refine lv_iconst (v := 1) hx hb dX7_behindOne_126 (by decide) ?_
              refine lv_icmp_ne (tgt := 201) hx hb dX7_behindOne_127 (by decide) (fun c19 => ?_) (fun c19 => ?_)
              · have hF := (if_neg c19).symm.trans hF
                have hok := Eq.mp (if_neg c19) hok
                refine lv_iconst (v := 0) hx hb dX7_behindOne_201 (by decide) ?_
                have hF : (_, _) = F := hF
                exact g_iret hx hb hr hlocks hP hS dX7_behindOne_202 (g_p1 hF) (g_p2 hF)
              · have hF := (if_pos c19).symm.trans hF
                have hok := Eq.mp (if_pos c19) hok
                refine lv_aload_n hx hb dX7_behindOne_130 rfl (lv_at hl 0 rfl) ?_
                refine ge_X7_interrupted hx hb hg hown kf_X7_136 hK hP dX7_behindOne_131 ?_
                refine lv_if_ne (tgt := 201) hx hb dX7_behindOne_134 (by decide) (fun c20 => ?_) (fun c20 => ?_)
                · have hF := (if_neg c20).symm.trans hF
                  have hok := Eq.mp (if_neg c20) hok
                  refine lv_iconst (v := 0) hx hb dX7_behindOne_201 (by decide) ?_
                  have hF : (_, _) = F := hF
                  exact g_iret hx hb hr hlocks hP hS dX7_behindOne_202 (g_p1 hF) (g_p2 hF)
                · have hF := (if_pos c20).symm.trans hF
                  have hok := Eq.mp (if_pos c20) hok
                  refine lv_aload_n hx hb dX7_behindOne_137 rfl (lv_at hl 0 rfl) ?_
                  refine ge_X7_s hx hb hg hown kf_X7_13 hK hP dX7_behindOne_138 ?_
                  refine lv_bipush (v := 20) hx hb dX7_behindOne_141 (by decide) ?_
                  refine lv_bipush (v := 16) hx hb dX7_behindOne_143 (by decide) ?_
                  refine lv_aload_n hx hb dX7_behindOne_145 rfl (lv_at hl 0 rfl) ?_
                  refine ge_X7_s hx hb hg hown kf_X7_13 hK hP dX7_behindOne_146 ?_
                  refine lv_bipush (v := 19) hx hb dX7_behindOne_149 (by decide) ?_
                  refine mlc_s 19 (by decide) hx hb hK hP dX7_behindOne_151 ?_
                  refine lv_imul hx hb dX7_behindOne_152 ?_
                  refine lv_aload_n hx hb dX7_behindOne_153 rfl (lv_at hl 0 rfl) ?_
                  refine ge_X7_s hx hb hg hown kf_X7_13 hK hP dX7_behindOne_154 ?_
                  refine lv_bipush (v := 18) hx hb dX7_behindOne_157 (by decide) ?_
                  refine mlc_s 18 (by decide) hx hb hK hP dX7_behindOne_159 ?_
                  refine lv_iadd hx hb dX7_behindOne_160 ?_
                  refine mac_s 20 (by decide) hi hx hb hK hP hS dX7_behindOne_161 (fun H locs hP hS => ?_)
                  refine lv_aload_n hx hb dX7_behindOne_162 rfl (lv_at hl 0 rfl) ?_
                  refine ge_X7_s hx hb hg hown kf_X7_13 hK hP dX7_behindOne_163 ?_
                  refine lv_bipush (v := 19) hx hb dX7_behindOne_166 (by decide) ?_
                  refine lv_iconst (v := 2) hx hb dX7_behindOne_168 (by decide) ?_
                  refine mac_s 19 (by decide) hi hx hb hK hP hS dX7_behindOne_169 (fun H locs hP hS => ?_)
                  refine lv_aload_n hx hb dX7_behindOne_170 rfl (lv_at hl 0 rfl) ?_
                  refine ge_X7_s hx hb hg hown kf_X7_13 hK hP dX7_behindOne_171 ?_
                  refine lv_bipush (v := 18) hx hb dX7_behindOne_174 (by decide) ?_
                  refine lv_iconst (v := 1) hx hb dX7_behindOne_176 (by decide) ?_
                  refine mac_s 18 (by decide) hi hx hb hK hP hS dX7_behindOne_177 (fun H locs hP hS => ?_)
                  refine lv_aload_n hx hb dX7_behindOne_178 rfl (lv_at hl 0 rfl) ?_
                  refine ge_X7_s hx hb hg hown kf_X7_13 hK hP dX7_behindOne_179 ?_
                  refine lv_bipush (v := 21) hx hb dX7_behindOne_182 (by decide) ?_
                  refine lv_iconst (v := 0) hx hb dX7_behindOne_184 (by decide) ?_
                  refine mac_s 21 (by decide) hi hx hb hK hP hS dX7_behindOne_185 (fun H locs hP hS => ?_)
                  refine lv_aload_n hx hb dX7_behindOne_186 rfl (lv_at hl 0 rfl) ?_
                  refine ge_X7_s hx hb hg hown kf_X7_13 hK hP dX7_behindOne_187 ?_
                  refine lv_bipush (v := 23) hx hb dX7_behindOne_190 (by decide) ?_
                  refine lv_iconst (v := 0) hx hb dX7_behindOne_192 (by decide) ?_
                  refine mac_s 23 (by decide) hi hx hb hK hP hS dX7_behindOne_193 (fun H locs hP hS => ?_)
                  refine lv_aload_n hx hb dX7_behindOne_194 rfl (lv_at hl 0 rfl) ?_
                  refine lv_iconst (v := 1) hx hb dX7_behindOne_195 (by decide) ?_
                  refine pu_X7_interrupted hi hx hb hg hown kf_X7_136 hK hP hS rfl rfl dX7_behindOne_196 (fun H locs hP hS => ?_)
                  refine lv_iconst (v := 1) hx hb dX7_behindOne_199 (by decide) ?_
                  have hF : (_, _) = F := hF
                  exact g_iret hx hb hr hlocks hP hS dX7_behindOne_200 (g_p1 hF) (g_p2 hF)
            · have hF := (if_neg c18).symm.trans hF
              have hok := Eq.mp (if_neg c18) hok
              refine lv_aload_n hx hb dX7_behindOne_110 rfl (lv_at hl 0 rfl) ?_
              refine ge_X7_line hx hb hg hown kf_X7_59 hK hP dX7_behindOne_111 ?_
              refine lv_bipush (v := 63) hx hb dX7_behindOne_114 (by decide) ?_
              refine lv_icmp_ne (tgt := 201) hx hb dX7_behindOne_116 (by decide) (fun c21 => ?_) (fun c21 => ?_)
              · have hF := (if_neg c21).symm.trans hF
                have hok := Eq.mp (if_neg c21) hok
                refine lv_iconst (v := 0) hx hb dX7_behindOne_201 (by decide) ?_
                have hF : (_, _) = F := hF
                exact g_iret hx hb hr hlocks hP hS dX7_behindOne_202 (g_p1 hF) (g_p2 hF)
              · have hF := (if_pos c21).symm.trans hF
                have hok := Eq.mp (if_pos c21) hok
                refine lv_aload_n hx hb dX7_behindOne_119 rfl (lv_at hl 0 rfl) ?_
                refine ge_X7_s hx hb hg hown kf_X7_13 hK hP dX7_behindOne_120 ?_
                refine lv_bipush (v := 21) hx hb dX7_behindOne_123 (by decide) ?_
                refine mlc_s 21 (by decide) hx hb hK hP dX7_behindOne_125 ?_
                refine lv_iconst (v := 1) hx hb dX7_behindOne_126 (by decide) ?_
                refine lv_icmp_ne (tgt := 201) hx hb dX7_behindOne_127 (by decide) (fun c22 => ?_) (fun c22 => ?_)
                · have hF := (if_neg c22).symm.trans hF
                  have hok := Eq.mp (if_neg c22) hok
                  refine lv_iconst (v := 0) hx hb dX7_behindOne_201 (by decide) ?_
                  have hF : (_, _) = F := hF
                  exact g_iret hx hb hr hlocks hP hS dX7_behindOne_202 (g_p1 hF) (g_p2 hF)
                · have hF := (if_pos c22).symm.trans hF
                  have hok := Eq.mp (if_pos c22) hok
                  refine lv_aload_n hx hb dX7_behindOne_130 rfl (lv_at hl 0 rfl) ?_
                  refine ge_X7_interrupted hx hb hg hown kf_X7_136 hK hP dX7_behindOne_131 ?_
                  refine lv_if_ne (tgt := 201) hx hb dX7_behindOne_134 (by decide) (fun c23 => ?_) (fun c23 => ?_)
                  · have hF := (if_neg c23).symm.trans hF
                    have hok := Eq.mp (if_neg c23) hok
                    refine lv_iconst (v := 0) hx hb dX7_behindOne_201 (by decide) ?_
                    have hF : (_, _) = F := hF
                    exact g_iret hx hb hr hlocks hP hS dX7_behindOne_202 (g_p1 hF) (g_p2 hF)
                  · have hF := (if_pos c23).symm.trans hF
                    have hok := Eq.mp (if_pos c23) hok
                    refine lv_aload_n hx hb dX7_behindOne_137 rfl (lv_at hl 0 rfl) ?_
                    refine ge_X7_s hx hb hg hown kf_X7_13 hK hP dX7_behindOne_138 ?_
                    refine lv_bipush (v := 20) hx hb dX7_behindOne_141 (by decide) ?_
                    refine lv_bipush (v := 16) hx hb dX7_behindOne_143 (by decide) ?_
                    refine lv_aload_n hx hb dX7_behindOne_145 rfl (lv_at hl 0 rfl) ?_
                    refine ge_X7_s hx hb hg hown kf_X7_13 hK hP dX7_behindOne_146 ?_
                    refine lv_bipush (v := 19) hx hb dX7_behindOne_149 (by decide) ?_
                    refine mlc_s 19 (by decide) hx hb hK hP dX7_behindOne_151 ?_
                    refine lv_imul hx hb dX7_behindOne_152 ?_
                    refine lv_aload_n hx hb dX7_behindOne_153 rfl (lv_at hl 0 rfl) ?_
                    refine ge_X7_s hx hb hg hown kf_X7_13 hK hP dX7_behindOne_154 ?_
                    refine lv_bipush (v := 18) hx hb dX7_behindOne_157 (by decide) ?_
                    refine mlc_s 18 (by decide) hx hb hK hP dX7_behindOne_159 ?_
                    refine lv_iadd hx hb dX7_behindOne_160 ?_
                    refine mac_s 20 (by decide) hi hx hb hK hP hS dX7_behindOne_161 (fun H locs hP hS => ?_)
                    refine lv_aload_n hx hb dX7_behindOne_162 rfl (lv_at hl 0 rfl) ?_
                    refine ge_X7_s hx hb hg hown kf_X7_13 hK hP dX7_behindOne_163 ?_
                    refine lv_bipush (v := 19) hx hb dX7_behindOne_166 (by decide) ?_
                    refine lv_iconst (v := 2) hx hb dX7_behindOne_168 (by decide) ?_
                    refine mac_s 19 (by decide) hi hx hb hK hP hS dX7_behindOne_169 (fun H locs hP hS => ?_)
                    refine lv_aload_n hx hb dX7_behindOne_170 rfl (lv_at hl 0 rfl) ?_
                    refine ge_X7_s hx hb hg hown kf_X7_13 hK hP dX7_behindOne_171 ?_
                    refine lv_bipush (v := 18) hx hb dX7_behindOne_174 (by decide) ?_
                    refine lv_iconst (v := 1) hx hb dX7_behindOne_176 (by decide) ?_
                    refine mac_s 18 (by decide) hi hx hb hK hP hS dX7_behindOne_177 (fun H locs hP hS => ?_)
                    refine lv_aload_n hx hb dX7_behindOne_178 rfl (lv_at hl 0 rfl) ?_
                    refine ge_X7_s hx hb hg hown kf_X7_13 hK hP dX7_behindOne_179 ?_
                    refine lv_bipush (v := 21) hx hb dX7_behindOne_182 (by decide) ?_
                    refine lv_iconst (v := 0) hx hb dX7_behindOne_184 (by decide) ?_
                    refine mac_s 21 (by decide) hi hx hb hK hP hS dX7_behindOne_185 (fun H locs hP hS => ?_)
                    refine lv_aload_n hx hb dX7_behindOne_186 rfl (lv_at hl 0 rfl) ?_
                    refine ge_X7_s hx hb hg hown kf_X7_13 hK hP dX7_behindOne_187 ?_
                    refine lv_bipush (v := 23) hx hb dX7_behindOne_190 (by decide) ?_
                    refine lv_iconst (v := 0) hx hb dX7_behindOne_192 (by decide) ?_
                    refine mac_s 23 (by decide) hi hx hb hK hP hS dX7_behindOne_193 (fun H locs hP hS => ?_)
                    refine lv_aload_n hx hb dX7_behindOne_194 rfl (lv_at hl 0 rfl) ?_
                    refine lv_iconst (v := 1) hx hb dX7_behindOne_195 (by decide) ?_
                    refine pu_X7_interrupted hi hx hb hg hown kf_X7_136 hK hP hS rfl rfl dX7_behindOne_196 (fun H locs hP hS => ?_)
                    refine lv_iconst (v := 1) hx hb dX7_behindOne_199 (by decide) ?_
                    have hF : (_, _) = F := hF
                    exact g_iret hx hb hr hlocks hP hS dX7_behindOne_200 (g_p1 hF) (g_p2 hF)
          · have hF := (if_neg c17).symm.trans hF
            have hok := Eq.mp (if_neg c17) hok
            refine lv_iconst (v := 0) hx hb dX7_behindOne_43 (by decide) ?_
            refine lv_istore_n hx hb dX7_behindOne_44 rfl hl (by decide) rfl (fun ls hl => ?_)
            have hl : lv_has ls 2 [(1, _), (0, _)] := hl
            exact (loop 9) _ _ _ _ _ hF hok hP hS (lv_sub hl [1, 0] rfl)
  · have hF := (if_pos c1).symm.trans hF
    have hok := Eq.mp (if_pos c1) hok
    refine lv_iconst (v := 0) hx hb dX7_behindOne_7 (by decide) ?_
    have hF : (_, _) = F := hF
    exact g_iret hx hb hr hlocks hP hS dX7_behindOne_8 (g_p1 hF) (g_p2 hF)
def f_X7_run_L : Nat → MS → Int32 → Int32 → Int32 × MS
  | 0, u, _, _ => (0, u)
  | n + 1, u, a1, a2 =>
    if a1 ≤ a2 then
      (a2, u)
    else
      let r4 : Int32 × MS := f_X7_instruction u
      let t5 : Int32 := r4.1
      let r6 : MS := f_X7_cycles r4.2 t5
      let r7 : Int32 × MS := f_X7_behindOne r6
      let t8 : Int32 := r7.1
      let r9 : MS := f_X7_cycles r7.2 t8
      let t10 : Int32 := (a2 + (t5 + t8))
      f_X7_run_L n r9 a1 t10
def ok_X7_run_L : Nat → MS → Int32 → Int32 → Prop
  | 0, _, _, _ => False
  | n + 1, u, a1, a2 =>
    if a1 ≤ a2 then
      True
    else
      ok_X7_instruction u ∧
      let r4 : Int32 × MS := f_X7_instruction u
      let t5 : Int32 := r4.1
      ok_X7_cycles r4.2 t5 ∧
      let r6 : MS := f_X7_cycles r4.2 t5
      ok_X7_behindOne r6 ∧
      let r7 : Int32 × MS := f_X7_behindOne r6
      let t8 : Int32 := r7.1
      ok_X7_cycles r7.2 t8 ∧
      let r9 : MS := f_X7_cycles r7.2 t8
      let t10 : Int32 := (a2 + (t5 + t8))
      ok_X7_run_L n r9 a1 t10
def f_X7_run (u : MS) (p0 : Int32) : Int32 × MS :=
  if p0 < 1 then
    let r1 : Int32 × MS := f_X7_fails u 1 1
    if r1.1 = 0 then
      f_X7_run_L 4001 r1.2 p0 0
    else
      (0, r1.2)
  else
    if p0 ≤ 4000 then
      let r2 : Int32 × MS := f_X7_fails u 0 1
      if r2.1 = 0 then
        f_X7_run_L 4001 r2.2 p0 0
      else
        (0, r2.2)
    else
      let r3 : Int32 × MS := f_X7_fails u 1 1
      if r3.1 = 0 then
        f_X7_run_L 4001 r3.2 p0 0
      else
        (0, r3.2)
def ok_X7_run (u : MS) (p0 : Int32) : Prop :=
  if p0 < 1 then
    let r1 : Int32 × MS := f_X7_fails u 1 1
    if r1.1 = 0 then
      ok_X7_run_L 4001 r1.2 p0 0
    else
      True
  else
    if p0 ≤ 4000 then
      let r2 : Int32 × MS := f_X7_fails u 0 1
      if r2.1 = 0 then
        ok_X7_run_L 4001 r2.2 p0 0
      else
        True
    else
      let r3 : Int32 × MS := f_X7_fails u 1 1
      if r3.1 = 0 then
        ok_X7_run_L 4001 r3.2 p0 0
      else
        True
set_option maxHeartbeats 4000000 in
set_option maxRecDepth 100000 in
theorem c_X7_run (l : Launch) (dC : Nat → ClassId) (dI : Nat → Nat → Nat) (cI cZ : ClassId) (x : Nat → Nat) (hi : g_inj 7 x) (u : MS) (p0 : Int32) (hok : ok_X7_run u p0) : g_Mi l yX7_run (.code yX7_run cX7_run 5 (some .int)) { frames := 5, cells := 0, slots := 0, locals := 108 } (dC, dI) vwCl (tysW cI cZ) (wM x cI cZ) (g_bA 7 x) u [.ref (x 0), .int p0] (f_X7_run u p0).1 (f_X7_run u p0).2 := by
  refine Met.ofW (cc := cX7_run) (maxL := 5) (ret := (some .int)) (by decide) rfl ?_
  intro p e s m args below meth c s₁ B hml hv
  obtain ⟨rfl, hP, hK⟩ := hv
  have hx := B.exec
  have hb := B.bytes
  have hr := B.returns
  have hts := atoms_spec (ws := .code yX7_run cX7_run 5 (some .int) :: gtbl) B.pre
  have hg : ∀ w ∈ gtbl, w.before _ s = true := fun w h => hts w (List.mem_cons_of_mem _ h)
  have hown : s.vm.findClass RX7 = some m.cls := findClass_of_methodNamed B.named
  have hlocks := B.notSynchronized
  have hS : va_S (g_bA 7 x) s.heap s.heap [] := va_S.rf
  have hl := lv_entry ([.ref (x 0), .int p0]) (n := 5) (Nat.le_of_ble_eq_true rfl)
  rw [lg_entry_eq]
  generalize (lg_sl ([.ref (x 0), .int p0]) ++ List.replicate (5 - (lg_sl ([.ref (x 0), .int p0])).length) Slot.unset).toArray = ls at hl ⊢
  have hl : lv_has ls 5 [(0, .ref (x 0)), (1, .int p0)] := hl
  obtain ⟨F, hF⟩ : ∃ F, f_X7_run u p0 = F := ⟨_, rfl⟩
  rw [hF]
  have loop : ∀ (n : Nat), (∀ (u : MS) (a1 : Int32) (a2 : Int32) (H : Heap) (locs : List Loc) (ls : Array Slot), f_X7_run_L n u a1 a2 = F → ok_X7_run_L n u a1 a2 → va_P (dC, dI) vwCl (wM x cI cZ u) H → va_S (g_bA 7 x) s.heap H locs → lv_has ls 5 [(0, .ref (x 0)), (1, .int a1), (2, .int a2)] → W p l e (headSpec (.code yX7_run cX7_run 5 (some .int) :: gtbl) { frames := 5, cells := 0, slots := 0, locals := 108 }).room s m ([.ref (x 0), .int p0] : List Value).toArray below meth c H locs 0 0 (MQ below (va_Qi (fun r1 v1 => r1 = F.1 ∧ v1 = F.2) (fun v1 t => va_P (dC, dI) vwCl (wM x cI cZ v1) t.heap) (g_bA 7 x)) ([.ref (x 0), .int p0] : List Value).toArray s 0 0 (g_bA 7 x)) (F0 m 29 ls [])) := by
    intro n
    induction n with
    | zero => intro u a1 a2 H locs ls hF hok; exact hok.elim
    | succ n ih =>
      intro u a1 a2 H locs ls hF hok hP hS hl
      refine lv_iload_n hx hb dX7_run_29 rfl (lv_at hl 2 rfl) ?_
      refine lv_iload_n hx hb dX7_run_30 rfl (lv_at hl 1 rfl) ?_
      refine lv_icmp_ge (tgt := 66) hx hb dX7_run_31 (by decide) (fun c6 => ?_) (fun c6 => ?_)
      · have hF := (if_pos c6).symm.trans hF
        have hok := Eq.mp (if_pos c6) hok
        refine lv_iload_n hx hb dX7_run_66 rfl (lv_at hl 2 rfl) ?_
        have hF : (_, _) = F := hF
        exact g_iret hx hb hr hlocks hP hS dX7_run_67 (g_p1 hF) (g_p2 hF)
      · have hF := (if_neg c6).symm.trans hF
        have hok := Eq.mp (if_neg c6) hok
        refine lv_aload_n hx hb dX7_run_34 rfl (lv_at hl 0 rfl) ?_
        obtain ⟨c7, hok⟩ := hok
        refine g_Vi hx hb hml hown hg (c_X7_instruction l dC dI cI cZ x hi _ c7) cs_X7_145 rfl rfl ⟨Nat.le_of_ble_eq_true rfl, Nat.le_of_ble_eq_true rfl⟩ hK hP hS (q0 := 0) rfl rfl rfl hl.1 rfl (Nat.le_of_ble_eq_true rfl) dX7_run_35 ⟨Nat.zero_le _, Nat.zero_le _⟩ (fun H locs hP hS => ?_)
        refine lv_istore_n hx hb dX7_run_38 rfl hl (by decide) rfl (fun ls hl => ?_)
        have hl : lv_has ls 5 [(3, _), (0, _), (1, _), (2, _)] := hl
        refine lv_aload_n hx hb dX7_run_39 rfl (lv_at hl 1 rfl) ?_
        refine lv_iload_n hx hb dX7_run_40 rfl (lv_at hl 0 rfl) ?_
        obtain ⟨c8, hok⟩ := hok
        refine g_Vv hx hb hml hown hg (c_X7_cycles l dC dI cI cZ x hi _ _ c8) cs_X7_148 rfl rfl ⟨Nat.le_of_ble_eq_true rfl, Nat.le_of_ble_eq_true rfl⟩ hK hP hS (q0 := 0) rfl rfl rfl hl.1 rfl (Nat.le_of_ble_eq_true rfl) dX7_run_41 ⟨Nat.zero_le _, Nat.zero_le _⟩ (fun H locs hP hS => ?_)
        refine lv_aload_n hx hb dX7_run_44 rfl (lv_at hl 1 rfl) ?_
        obtain ⟨c9, hok⟩ := hok
        refine g_Vi hx hb hml hown hg (c_X7_behindOne l dC dI cI cZ x hi _ c9) cs_X7_151 rfl rfl ⟨Nat.le_of_ble_eq_true rfl, Nat.le_of_ble_eq_true rfl⟩ hK hP hS (q0 := 0) rfl rfl rfl hl.1 rfl (Nat.le_of_ble_eq_true rfl) dX7_run_45 ⟨Nat.zero_le _, Nat.zero_le _⟩ (fun H locs hP hS => ?_)
        refine lv_istore hx hb dX7_run_48 hl (by decide) rfl (fun ls hl => ?_)
        have hl : lv_has ls 5 [(4, _), (3, _), (0, _), (1, _), (2, _)] := hl
        refine lv_aload_n hx hb dX7_run_50 rfl (lv_at hl 2 rfl) ?_
        refine lv_iload hx hb dX7_run_51 (lv_at hl 0 rfl) ?_
        obtain ⟨c10, hok⟩ := hok
        refine g_Vv hx hb hml hown hg (c_X7_cycles l dC dI cI cZ x hi _ _ c10) cs_X7_148 rfl rfl ⟨Nat.le_of_ble_eq_true rfl, Nat.le_of_ble_eq_true rfl⟩ hK hP hS (q0 := 0) rfl rfl rfl hl.1 rfl (Nat.le_of_ble_eq_true rfl) dX7_run_53 ⟨Nat.zero_le _, Nat.zero_le _⟩ (fun H locs hP hS => ?_)
        refine lv_iload_n hx hb dX7_run_56 rfl (lv_at hl 4 rfl) ?_
        refine lv_iload_n hx hb dX7_run_57 rfl (lv_at hl 1 rfl) ?_
        refine lv_iload hx hb dX7_run_58 (lv_at hl 0 rfl) ?_
        refine lv_iadd hx hb dX7_run_60 ?_
        refine lv_iadd hx hb dX7_run_61 ?_
        refine lv_istore_n hx hb dX7_run_62 rfl hl (by decide) rfl (fun ls hl => ?_)
        have hl : lv_has ls 5 [(2, _), (4, _), (3, _), (0, _), (1, _)] := hl
        refine lv_goto (tgt := 29) hx hb dX7_run_63 (by decide) ?_
        exact ih _ _ _ _ _ _ hF hok hP hS (lv_sub hl [3, 4, 0] rfl)
  refine lv_aload_n hx hb dX7_run_0 rfl (lv_at hl 0 rfl) ?_
  refine lv_iload_n hx hb dX7_run_1 rfl (lv_at hl 1 rfl) ?_
  refine lv_iconst (v := 1) hx hb dX7_run_2 (by decide) ?_
  refine lv_icmp_lt (tgt := 13) hx hb dX7_run_3 (by decide) (fun c1 => ?_) (fun c1 => ?_)
  · have hF := (if_pos c1).symm.trans hF
    have hok := Eq.mp (if_pos c1) hok
    refine lv_iconst (v := 1) hx hb dX7_run_13 (by decide) ?_
    refine lv_goto (tgt := 18) hx hb dX7_run_14 (by decide) ?_
    refine lv_iconst (v := 1) hx hb dX7_run_18 (by decide) ?_
    refine g_Vi hx hb hml hown hg (c_X7_fails l dC dI cI cZ x hi _ _ _) cs_X7_37 rfl rfl ⟨Nat.le_of_ble_eq_true rfl, Nat.le_of_ble_eq_true rfl⟩ hK hP hS (q0 := 0) rfl rfl rfl hl.1 rfl (Nat.le_of_ble_eq_true rfl) dX7_run_19 ⟨Nat.zero_le _, Nat.zero_le _⟩ (fun H locs hP hS => ?_)
    refine lv_if_eq (tgt := 27) hx hb dX7_run_22 (by decide) (fun c2 => ?_) (fun c2 => ?_)
    · have hF := (if_pos c2).symm.trans hF
      have hok := Eq.mp (if_pos c2) hok
      refine lv_iconst (v := 0) hx hb dX7_run_27 (by decide) ?_
      refine lv_istore_n hx hb dX7_run_28 rfl hl (by decide) rfl (fun ls hl => ?_)
      have hl : lv_has ls 5 [(2, _), (0, _), (1, _)] := hl
      exact (loop 4001) _ _ _ _ _ _ hF hok hP hS (lv_sub hl [1, 2, 0] rfl)
    · have hF := (if_neg c2).symm.trans hF
      have hok := Eq.mp (if_neg c2) hok
      refine lv_iconst (v := 0) hx hb dX7_run_25 (by decide) ?_
      have hF : (_, _) = F := hF
      exact g_iret hx hb hr hlocks hP hS dX7_run_26 (g_p1 hF) (g_p2 hF)
  · have hF := (if_neg c1).symm.trans hF
    have hok := Eq.mp (if_neg c1) hok
    refine lv_iload_n hx hb dX7_run_6 rfl (lv_at hl 1 rfl) ?_
    refine lv_sipush (v := 4000) hx hb dX7_run_7 (by decide) ?_
    refine lv_icmp_le (tgt := 17) hx hb dX7_run_10 (by decide) (fun c3 => ?_) (fun c3 => ?_)
    · have hF := (if_pos c3).symm.trans hF
      have hok := Eq.mp (if_pos c3) hok
      refine lv_iconst (v := 0) hx hb dX7_run_17 (by decide) ?_
      refine lv_iconst (v := 1) hx hb dX7_run_18 (by decide) ?_
      refine g_Vi hx hb hml hown hg (c_X7_fails l dC dI cI cZ x hi _ _ _) cs_X7_37 rfl rfl ⟨Nat.le_of_ble_eq_true rfl, Nat.le_of_ble_eq_true rfl⟩ hK hP hS (q0 := 0) rfl rfl rfl hl.1 rfl (Nat.le_of_ble_eq_true rfl) dX7_run_19 ⟨Nat.zero_le _, Nat.zero_le _⟩ (fun H locs hP hS => ?_)
      refine lv_if_eq (tgt := 27) hx hb dX7_run_22 (by decide) (fun c4 => ?_) (fun c4 => ?_)
      · have hF := (if_pos c4).symm.trans hF
        have hok := Eq.mp (if_pos c4) hok
        refine lv_iconst (v := 0) hx hb dX7_run_27 (by decide) ?_
        refine lv_istore_n hx hb dX7_run_28 rfl hl (by decide) rfl (fun ls hl => ?_)
        have hl : lv_has ls 5 [(2, _), (0, _), (1, _)] := hl
        exact (loop 4001) _ _ _ _ _ _ hF hok hP hS (lv_sub hl [1, 2, 0] rfl)
      · have hF := (if_neg c4).symm.trans hF
        have hok := Eq.mp (if_neg c4) hok
        refine lv_iconst (v := 0) hx hb dX7_run_25 (by decide) ?_
        have hF : (_, _) = F := hF
        exact g_iret hx hb hr hlocks hP hS dX7_run_26 (g_p1 hF) (g_p2 hF)
    · have hF := (if_neg c3).symm.trans hF
      have hok := Eq.mp (if_neg c3) hok
      refine lv_iconst (v := 1) hx hb dX7_run_13 (by decide) ?_
      refine lv_goto (tgt := 18) hx hb dX7_run_14 (by decide) ?_
      refine lv_iconst (v := 1) hx hb dX7_run_18 (by decide) ?_
      refine g_Vi hx hb hml hown hg (c_X7_fails l dC dI cI cZ x hi _ _ _) cs_X7_37 rfl rfl ⟨Nat.le_of_ble_eq_true rfl, Nat.le_of_ble_eq_true rfl⟩ hK hP hS (q0 := 0) rfl rfl rfl hl.1 rfl (Nat.le_of_ble_eq_true rfl) dX7_run_19 ⟨Nat.zero_le _, Nat.zero_le _⟩ (fun H locs hP hS => ?_)
      refine lv_if_eq (tgt := 27) hx hb dX7_run_22 (by decide) (fun c5 => ?_) (fun c5 => ?_)
      · have hF := (if_pos c5).symm.trans hF
        have hok := Eq.mp (if_pos c5) hok
        refine lv_iconst (v := 0) hx hb dX7_run_27 (by decide) ?_
        refine lv_istore_n hx hb dX7_run_28 rfl hl (by decide) rfl (fun ls hl => ?_)
        have hl : lv_has ls 5 [(2, _), (0, _), (1, _)] := hl
        exact (loop 4001) _ _ _ _ _ _ hF hok hP hS (lv_sub hl [1, 2, 0] rfl)
      · have hF := (if_neg c5).symm.trans hF
        have hok := Eq.mp (if_neg c5) hok
        refine lv_iconst (v := 0) hx hb dX7_run_25 (by decide) ?_
        have hF : (_, _) = F := hF
        exact g_iret hx hb hr hlocks hP hS dX7_run_26 (g_p1 hF) (g_p2 hF)
def f_X7_video (u : MS) (p0 : Int32) : Int32 × MS :=
  let r1 : Int32 × MS := f_X7_fails u (f_X7_out u p0 6) 1
  if r1.1 = 0 then
    if p0 = 0 then
      if (mq_on r1.2) = 0 then
        (0, r1.2)
      else
        (1, r1.2)
    else
      if p0 = 1 then
        ((mq_line r1.2), r1.2)
      else
        if p0 = 2 then
          ((mq_place r1.2), r1.2)
        else
          if p0 = 3 then
            ((mq_frames r1.2), r1.2)
          else
            if p0 = 4 then
              if (f_X7_isLight r1.2) = 0 then
                (0, r1.2)
              else
                (1, r1.2)
            else
              ((mq_latch r1.2), r1.2)
  else
    (0, r1.2)
set_option maxHeartbeats 4000000 in
set_option maxRecDepth 100000 in
theorem c_X7_video (l : Launch) (dC : Nat → ClassId) (dI : Nat → Nat → Nat) (cI cZ : ClassId) (x : Nat → Nat) (hi : g_inj 7 x) (u : MS) (p0 : Int32) : g_Mi l yX7_video (.code yX7_video cX7_video 2 (some .int)) { frames := 1, cells := 0, slots := 0, locals := 22 } (dC, dI) vwCl (tysW cI cZ) (wM x cI cZ) (g_bA 7 x) u [.ref (x 0), .int p0] (f_X7_video u p0).1 (f_X7_video u p0).2 := by
  refine Met.ofW (cc := cX7_video) (maxL := 2) (ret := (some .int)) (by decide) rfl ?_
  intro p e s m args below meth c s₁ B hml hv
  obtain ⟨rfl, hP, hK⟩ := hv
  have hx := B.exec
  have hb := B.bytes
  have hr := B.returns
  have hts := atoms_spec (ws := .code yX7_video cX7_video 2 (some .int) :: gtbl) B.pre
  have hg : ∀ w ∈ gtbl, w.before _ s = true := fun w h => hts w (List.mem_cons_of_mem _ h)
  have hown : s.vm.findClass RX7 = some m.cls := findClass_of_methodNamed B.named
  have hlocks := B.notSynchronized
  have hS : va_S (g_bA 7 x) s.heap s.heap [] := va_S.rf
  have hl := lv_entry ([.ref (x 0), .int p0]) (n := 2) (Nat.le_of_ble_eq_true rfl)
  rw [lg_entry_eq]
  generalize (lg_sl ([.ref (x 0), .int p0]) ++ List.replicate (2 - (lg_sl ([.ref (x 0), .int p0])).length) Slot.unset).toArray = ls at hl ⊢
  have hl : lv_has ls 2 [(0, .ref (x 0)), (1, .int p0)] := hl
  obtain ⟨F, hF⟩ : ∃ F, f_X7_video u p0 = F := ⟨_, rfl⟩
  rw [hF]
  refine lv_aload_n hx hb dX7_video_0 rfl (lv_at hl 0 rfl) ?_
  refine lv_iload_n hx hb dX7_video_1 rfl (lv_at hl 1 rfl) ?_
  refine lv_bipush (v := 6) hx hb dX7_video_2 (by decide) ?_
  refine g_Si hx hb hml hown hg (c_X7_out l dC dI cI cZ x hi _ _ _) cs_X7_33 rfl rfl ⟨Nat.le_of_ble_eq_true rfl, Nat.le_of_ble_eq_true rfl⟩ hK hP hS rfl hl.1 rfl (Nat.le_of_ble_eq_true rfl) dX7_video_4 ⟨Nat.zero_le _, Nat.zero_le _⟩ (fun H locs hP hS => ?_)
  refine lv_iconst (v := 1) hx hb dX7_video_7 (by decide) ?_
  refine g_Vi hx hb hml hown hg (c_X7_fails l dC dI cI cZ x hi _ _ _) cs_X7_37 rfl rfl ⟨Nat.le_of_ble_eq_true rfl, Nat.le_of_ble_eq_true rfl⟩ hK hP hS (q0 := 0) rfl rfl rfl hl.1 rfl (Nat.le_of_ble_eq_true rfl) dX7_video_8 ⟨Nat.zero_le _, Nat.zero_le _⟩ (fun H locs hP hS => ?_)
  refine lv_if_eq (tgt := 16) hx hb dX7_video_11 (by decide) (fun c1 => ?_) (fun c1 => ?_)
  · have hF := (if_pos c1).symm.trans hF
    refine lv_iload_n hx hb dX7_video_16 rfl (lv_at hl 1 rfl) ?_
    refine sw_case (v := 0) (fun c2 => ?_) (fun c2 => ?_)
    · have hF := (if_pos c2).symm.trans hF
      refine sw_in (off := 35) (tgt := 52) 0 hx hb dX7_video_17 c2 (by decide) (by decide) ?_
      refine lv_aload_n hx hb dX7_video_52 rfl (lv_at hl 0 rfl) ?_
      refine ge_X7_on hx hb hg hown kf_X7_55 hK hP dX7_video_53 ?_
      refine lv_if_eq (tgt := 63) hx hb dX7_video_56 (by decide) (fun c3 => ?_) (fun c3 => ?_)
      · have hF := (if_pos c3).symm.trans hF
        refine lv_iconst (v := 0) hx hb dX7_video_63 (by decide) ?_
        have hF : (_, _) = F := hF
        exact g_iret hx hb hr hlocks hP hS dX7_video_64 (g_p1 hF) (g_p2 hF)
      · have hF := (if_neg c3).symm.trans hF
        refine lv_iconst (v := 1) hx hb dX7_video_59 (by decide) ?_
        refine lv_goto (tgt := 64) hx hb dX7_video_60 (by decide) ?_
        have hF : (_, _) = F := hF
        exact g_iret hx hb hr hlocks hP hS dX7_video_64 (g_p1 hF) (g_p2 hF)
    · have hF := (if_neg c2).symm.trans hF
      refine sw_case (v := 1) (fun c4 => ?_) (fun c4 => ?_)
      · have hF := (if_pos c4).symm.trans hF
        refine sw_in (off := 48) (tgt := 65) 1 hx hb dX7_video_17 c4 (by decide) (by decide) ?_
        refine lv_aload_n hx hb dX7_video_65 rfl (lv_at hl 0 rfl) ?_
        refine ge_X7_line hx hb hg hown kf_X7_59 hK hP dX7_video_66 ?_
        have hF : (_, _) = F := hF
        exact g_iret hx hb hr hlocks hP hS dX7_video_69 (g_p1 hF) (g_p2 hF)
      · have hF := (if_neg c4).symm.trans hF
        refine sw_case (v := 2) (fun c5 => ?_) (fun c5 => ?_)
        · have hF := (if_pos c5).symm.trans hF
          refine sw_in (off := 53) (tgt := 70) 2 hx hb dX7_video_17 c5 (by decide) (by decide) ?_
          refine lv_aload_n hx hb dX7_video_70 rfl (lv_at hl 0 rfl) ?_
          refine ge_X7_place hx hb hg hown kf_X7_130 hK hP dX7_video_71 ?_
          have hF : (_, _) = F := hF
          exact g_iret hx hb hr hlocks hP hS dX7_video_74 (g_p1 hF) (g_p2 hF)
        · have hF := (if_neg c5).symm.trans hF
          refine sw_case (v := 3) (fun c6 => ?_) (fun c6 => ?_)
          · have hF := (if_pos c6).symm.trans hF
            refine sw_in (off := 58) (tgt := 75) 3 hx hb dX7_video_17 c6 (by decide) (by decide) ?_
            refine lv_aload_n hx hb dX7_video_75 rfl (lv_at hl 0 rfl) ?_
            refine ge_X7_frames hx hb hg hown kf_X7_139 hK hP dX7_video_76 ?_
            have hF : (_, _) = F := hF
            exact g_iret hx hb hr hlocks hP hS dX7_video_79 (g_p1 hF) (g_p2 hF)
          · have hF := (if_neg c6).symm.trans hF
            refine sw_case (v := 4) (fun c7 => ?_) (fun c7 => ?_)
            · have hF := (if_pos c7).symm.trans hF
              refine sw_in (off := 63) (tgt := 80) 4 hx hb dX7_video_17 c7 (by decide) (by decide) ?_
              refine lv_aload_n hx hb dX7_video_80 rfl (lv_at hl 0 rfl) ?_
              refine g_Vi hx hb hml hown hg (c_X7_isLight l dC dI cI cZ x hi _) cs_X7_62 rfl rfl ⟨Nat.le_of_ble_eq_true rfl, Nat.le_of_ble_eq_true rfl⟩ hK hP hS (q0 := 0) rfl rfl rfl hl.1 rfl (Nat.le_of_ble_eq_true rfl) dX7_video_81 ⟨Nat.zero_le _, Nat.zero_le _⟩ (fun H locs hP hS => ?_)
              refine lv_if_eq (tgt := 91) hx hb dX7_video_84 (by decide) (fun c8 => ?_) (fun c8 => ?_)
              · have hF := (if_pos c8).symm.trans hF
                refine lv_iconst (v := 0) hx hb dX7_video_91 (by decide) ?_
                have hF : (_, _) = F := hF
                exact g_iret hx hb hr hlocks hP hS dX7_video_92 (g_p1 hF) (g_p2 hF)
              · have hF := (if_neg c8).symm.trans hF
                refine lv_iconst (v := 1) hx hb dX7_video_87 (by decide) ?_
                refine lv_goto (tgt := 92) hx hb dX7_video_88 (by decide) ?_
                have hF : (_, _) = F := hF
                exact g_iret hx hb hr hlocks hP hS dX7_video_92 (g_p1 hF) (g_p2 hF)
            · have hF := (if_neg c7).symm.trans hF
              refine sw_def (tgt := 93) [0, 1, 2, 3, 4] hx hb dX7_video_17 (List.forall_mem_cons.mpr ⟨c2, List.forall_mem_cons.mpr ⟨c4, List.forall_mem_cons.mpr ⟨c5, List.forall_mem_cons.mpr ⟨c6, List.forall_mem_cons.mpr ⟨c7, fun _ h => absurd h List.not_mem_nil⟩⟩⟩⟩⟩) (by decide) (by decide) ?_
              refine lv_aload_n hx hb dX7_video_93 rfl (lv_at hl 0 rfl) ?_
              refine ge_X7_latch hx hb hg hown kf_X7_66 hK hP dX7_video_94 ?_
              have hF : (_, _) = F := hF
              exact g_iret hx hb hr hlocks hP hS dX7_video_97 (g_p1 hF) (g_p2 hF)
  · have hF := (if_neg c1).symm.trans hF
    refine lv_iconst (v := 0) hx hb dX7_video_14 (by decide) ?_
    have hF : (_, _) = F := hF
    exact g_iret hx hb hr hlocks hP hS dX7_video_15 (g_p1 hF) (g_p2 hF)
def f_X7_shown (u : MS) (p0 : Int32) (p1 : Int32) : Int32 × MS :=
  if (f_X7_out u p0 128) = 0 then
    if (f_X7_out u p1 8) = 0 then
      let r1 : Int32 × MS := f_X7_fails u 0 1
      if r1.1 = 0 then
        ((mq_shown r1.2 ((((8 : Int32) * p0) + p1)).toNatClampNeg), r1.2)
      else
        (0, r1.2)
    else
      let r2 : Int32 × MS := f_X7_fails u 1 1
      if r2.1 = 0 then
        ((mq_shown r2.2 ((((8 : Int32) * p0) + p1)).toNatClampNeg), r2.2)
      else
        (0, r2.2)
  else
    let r3 : Int32 × MS := f_X7_fails u 1 1
    if r3.1 = 0 then
      ((mq_shown r3.2 ((((8 : Int32) * p0) + p1)).toNatClampNeg), r3.2)
    else
      (0, r3.2)
def ok_X7_shown (u : MS) (p0 : Int32) (p1 : Int32) : Prop :=
  if (f_X7_out u p0 128) = 0 then
    if (f_X7_out u p1 8) = 0 then
      let r1 : Int32 × MS := f_X7_fails u 0 1
      if r1.1 = 0 then
        vp_in (((8 : Int32) * p0) + p1) 1024 ∧
        True
      else
        True
    else
      let r2 : Int32 × MS := f_X7_fails u 1 1
      if r2.1 = 0 then
        vp_in (((8 : Int32) * p0) + p1) 1024 ∧
        True
      else
        True
  else
    let r3 : Int32 × MS := f_X7_fails u 1 1
    if r3.1 = 0 then
      vp_in (((8 : Int32) * p0) + p1) 1024 ∧
      True
    else
      True
set_option maxHeartbeats 4000000 in
set_option maxRecDepth 100000 in
theorem c_X7_shown (l : Launch) (dC : Nat → ClassId) (dI : Nat → Nat → Nat) (cI cZ : ClassId) (x : Nat → Nat) (hi : g_inj 7 x) (u : MS) (p0 : Int32) (p1 : Int32) (hok : ok_X7_shown u p0 p1) : g_Mi l yX7_shown (.code yX7_shown cX7_shown 3 (some .int)) { frames := 1, cells := 0, slots := 0, locals := 22 } (dC, dI) vwCl (tysW cI cZ) (wM x cI cZ) (g_bA 7 x) u [.ref (x 0), .int p0, .int p1] (f_X7_shown u p0 p1).1 (f_X7_shown u p0 p1).2 := by
  refine Met.ofW (cc := cX7_shown) (maxL := 3) (ret := (some .int)) (by decide) rfl ?_
  intro p e s m args below meth c s₁ B hml hv
  obtain ⟨rfl, hP, hK⟩ := hv
  have hx := B.exec
  have hb := B.bytes
  have hr := B.returns
  have hts := atoms_spec (ws := .code yX7_shown cX7_shown 3 (some .int) :: gtbl) B.pre
  have hg : ∀ w ∈ gtbl, w.before _ s = true := fun w h => hts w (List.mem_cons_of_mem _ h)
  have hown : s.vm.findClass RX7 = some m.cls := findClass_of_methodNamed B.named
  have hlocks := B.notSynchronized
  have hS : va_S (g_bA 7 x) s.heap s.heap [] := va_S.rf
  have hl := lv_entry ([.ref (x 0), .int p0, .int p1]) (n := 3) (Nat.le_of_ble_eq_true rfl)
  rw [lg_entry_eq]
  generalize (lg_sl ([.ref (x 0), .int p0, .int p1]) ++ List.replicate (3 - (lg_sl ([.ref (x 0), .int p0, .int p1])).length) Slot.unset).toArray = ls at hl ⊢
  have hl : lv_has ls 3 [(0, .ref (x 0)), (1, .int p0), (2, .int p1)] := hl
  obtain ⟨F, hF⟩ : ∃ F, f_X7_shown u p0 p1 = F := ⟨_, rfl⟩
  rw [hF]
  refine lv_aload_n hx hb dX7_shown_0 rfl (lv_at hl 0 rfl) ?_
  refine lv_iload_n hx hb dX7_shown_1 rfl (lv_at hl 1 rfl) ?_
  refine lv_sipush (v := 128) hx hb dX7_shown_2 (by decide) ?_
  refine g_Si hx hb hml hown hg (c_X7_out l dC dI cI cZ x hi _ _ _) cs_X7_33 rfl rfl ⟨Nat.le_of_ble_eq_true rfl, Nat.le_of_ble_eq_true rfl⟩ hK hP hS rfl hl.1 rfl (Nat.le_of_ble_eq_true rfl) dX7_shown_5 ⟨Nat.zero_le _, Nat.zero_le _⟩ (fun H locs hP hS => ?_)
  refine lv_if_ne (tgt := 20) hx hb dX7_shown_8 (by decide) (fun c1 => ?_) (fun c1 => ?_)
  · have hF := (if_neg c1).symm.trans hF
    have hok := Eq.mp (if_neg c1) hok
    refine lv_iconst (v := 1) hx hb dX7_shown_20 (by decide) ?_
    refine lv_goto (tgt := 25) hx hb dX7_shown_21 (by decide) ?_
    refine lv_iconst (v := 1) hx hb dX7_shown_25 (by decide) ?_
    refine g_Vi hx hb hml hown hg (c_X7_fails l dC dI cI cZ x hi _ _ _) cs_X7_37 rfl rfl ⟨Nat.le_of_ble_eq_true rfl, Nat.le_of_ble_eq_true rfl⟩ hK hP hS (q0 := 0) rfl rfl rfl hl.1 rfl (Nat.le_of_ble_eq_true rfl) dX7_shown_26 ⟨Nat.zero_le _, Nat.zero_le _⟩ (fun H locs hP hS => ?_)
    refine lv_if_eq (tgt := 36) hx hb dX7_shown_29 (by decide) (fun c7 => ?_) (fun c7 => ?_)
    · have hF := (if_pos c7).symm.trans hF
      have hok := Eq.mp (if_pos c7) hok
      refine lv_aload_n hx hb dX7_shown_36 rfl (lv_at hl 0 rfl) ?_
      refine ge_X7_shown hx hb hg hown kf_X7_26 hK hP dX7_shown_37 ?_
      refine lv_bipush (v := 8) hx hb dX7_shown_40 (by decide) ?_
      refine lv_iload_n hx hb dX7_shown_42 rfl (lv_at hl 1 rfl) ?_
      refine lv_imul hx hb dX7_shown_43 ?_
      refine lv_iload_n hx hb dX7_shown_44 rfl (lv_at hl 2 rfl) ?_
      refine lv_iadd hx hb dX7_shown_45 ?_
      obtain ⟨c8, hok⟩ := hok
      refine ml_shown hx hb hK hP c8 dX7_shown_46 ?_
      have hF : (_, _) = F := hF
      exact g_iret hx hb hr hlocks hP hS dX7_shown_47 (g_p1 hF) (g_p2 hF)
    · have hF := (if_neg c7).symm.trans hF
      have hok := Eq.mp (if_neg c7) hok
      refine lv_iconst (v := 0) hx hb dX7_shown_32 (by decide) ?_
      refine lv_goto (tgt := 47) hx hb dX7_shown_33 (by decide) ?_
      have hF : (_, _) = F := hF
      exact g_iret hx hb hr hlocks hP hS dX7_shown_47 (g_p1 hF) (g_p2 hF)
  · have hF := (if_pos c1).symm.trans hF
    have hok := Eq.mp (if_pos c1) hok
    refine lv_iload_n hx hb dX7_shown_11 rfl (lv_at hl 2 rfl) ?_
    refine lv_bipush (v := 8) hx hb dX7_shown_12 (by decide) ?_
    refine g_Si hx hb hml hown hg (c_X7_out l dC dI cI cZ x hi _ _ _) cs_X7_33 rfl rfl ⟨Nat.le_of_ble_eq_true rfl, Nat.le_of_ble_eq_true rfl⟩ hK hP hS rfl hl.1 rfl (Nat.le_of_ble_eq_true rfl) dX7_shown_14 ⟨Nat.zero_le _, Nat.zero_le _⟩ (fun H locs hP hS => ?_)
    refine lv_if_eq (tgt := 24) hx hb dX7_shown_17 (by decide) (fun c2 => ?_) (fun c2 => ?_)
    · have hF := (if_pos c2).symm.trans hF
      have hok := Eq.mp (if_pos c2) hok
      refine lv_iconst (v := 0) hx hb dX7_shown_24 (by decide) ?_
      refine lv_iconst (v := 1) hx hb dX7_shown_25 (by decide) ?_
      refine g_Vi hx hb hml hown hg (c_X7_fails l dC dI cI cZ x hi _ _ _) cs_X7_37 rfl rfl ⟨Nat.le_of_ble_eq_true rfl, Nat.le_of_ble_eq_true rfl⟩ hK hP hS (q0 := 0) rfl rfl rfl hl.1 rfl (Nat.le_of_ble_eq_true rfl) dX7_shown_26 ⟨Nat.zero_le _, Nat.zero_le _⟩ (fun H locs hP hS => ?_)
      refine lv_if_eq (tgt := 36) hx hb dX7_shown_29 (by decide) (fun c3 => ?_) (fun c3 => ?_)
      · have hF := (if_pos c3).symm.trans hF
        have hok := Eq.mp (if_pos c3) hok
        refine lv_aload_n hx hb dX7_shown_36 rfl (lv_at hl 0 rfl) ?_
        refine ge_X7_shown hx hb hg hown kf_X7_26 hK hP dX7_shown_37 ?_
        refine lv_bipush (v := 8) hx hb dX7_shown_40 (by decide) ?_
        refine lv_iload_n hx hb dX7_shown_42 rfl (lv_at hl 1 rfl) ?_
        refine lv_imul hx hb dX7_shown_43 ?_
        refine lv_iload_n hx hb dX7_shown_44 rfl (lv_at hl 2 rfl) ?_
        refine lv_iadd hx hb dX7_shown_45 ?_
        obtain ⟨c4, hok⟩ := hok
        refine ml_shown hx hb hK hP c4 dX7_shown_46 ?_
        have hF : (_, _) = F := hF
        exact g_iret hx hb hr hlocks hP hS dX7_shown_47 (g_p1 hF) (g_p2 hF)
      · have hF := (if_neg c3).symm.trans hF
        have hok := Eq.mp (if_neg c3) hok
        refine lv_iconst (v := 0) hx hb dX7_shown_32 (by decide) ?_
        refine lv_goto (tgt := 47) hx hb dX7_shown_33 (by decide) ?_
        have hF : (_, _) = F := hF
        exact g_iret hx hb hr hlocks hP hS dX7_shown_47 (g_p1 hF) (g_p2 hF)
    · have hF := (if_neg c2).symm.trans hF
      have hok := Eq.mp (if_neg c2) hok
      refine lv_iconst (v := 1) hx hb dX7_shown_20 (by decide) ?_
      refine lv_goto (tgt := 25) hx hb dX7_shown_21 (by decide) ?_
      refine lv_iconst (v := 1) hx hb dX7_shown_25 (by decide) ?_
      refine g_Vi hx hb hml hown hg (c_X7_fails l dC dI cI cZ x hi _ _ _) cs_X7_37 rfl rfl ⟨Nat.le_of_ble_eq_true rfl, Nat.le_of_ble_eq_true rfl⟩ hK hP hS (q0 := 0) rfl rfl rfl hl.1 rfl (Nat.le_of_ble_eq_true rfl) dX7_shown_26 ⟨Nat.zero_le _, Nat.zero_le _⟩ (fun H locs hP hS => ?_)
      refine lv_if_eq (tgt := 36) hx hb dX7_shown_29 (by decide) (fun c5 => ?_) (fun c5 => ?_)
      · have hF := (if_pos c5).symm.trans hF
        have hok := Eq.mp (if_pos c5) hok
        refine lv_aload_n hx hb dX7_shown_36 rfl (lv_at hl 0 rfl) ?_
        refine ge_X7_shown hx hb hg hown kf_X7_26 hK hP dX7_shown_37 ?_
        refine lv_bipush (v := 8) hx hb dX7_shown_40 (by decide) ?_
        refine lv_iload_n hx hb dX7_shown_42 rfl (lv_at hl 1 rfl) ?_
        refine lv_imul hx hb dX7_shown_43 ?_
        refine lv_iload_n hx hb dX7_shown_44 rfl (lv_at hl 2 rfl) ?_
        refine lv_iadd hx hb dX7_shown_45 ?_
        obtain ⟨c6, hok⟩ := hok
        refine ml_shown hx hb hK hP c6 dX7_shown_46 ?_
        have hF : (_, _) = F := hF
        exact g_iret hx hb hr hlocks hP hS dX7_shown_47 (g_p1 hF) (g_p2 hF)
      · have hF := (if_neg c5).symm.trans hF
        have hok := Eq.mp (if_neg c5) hok
        refine lv_iconst (v := 0) hx hb dX7_shown_32 (by decide) ?_
        refine lv_goto (tgt := 47) hx hb dX7_shown_33 (by decide) ?_
        have hF : (_, _) = F := hF
        exact g_iret hx hb hr hlocks hP hS dX7_shown_47 (g_p1 hF) (g_p2 hF)
def f_X7_key (u : MS) (p0 : Int32) (p1 : Int32) : MS :=
  let r1 : Int32 × MS := f_X7_fails u (f_X7_out u p0 16) 1
  if r1.1 = 0 then
    let u2 : MS := ms_down r1.2 (upd (mq_down r1.2) (p0).toNatClampNeg (vp_nar .boolean p1))
    u2
  else
    r1.2
def ok_X7_key (u : MS) (p0 : Int32) (p1 : Int32) : Prop :=
  let r1 : Int32 × MS := f_X7_fails u (f_X7_out u p0 16) 1
  if r1.1 = 0 then
    vp_in p0 16 ∧
    let u2 : MS := ms_down r1.2 (upd (mq_down r1.2) (p0).toNatClampNeg (vp_nar .boolean p1))
    True
  else
    True
set_option maxHeartbeats 4000000 in
set_option maxRecDepth 100000 in
theorem c_X7_key (l : Launch) (dC : Nat → ClassId) (dI : Nat → Nat → Nat) (cI cZ : ClassId) (x : Nat → Nat) (hi : g_inj 7 x) (u : MS) (p0 : Int32) (p1 : Int32) (hok : ok_X7_key u p0 p1) : g_Mv l yX7_key (.code yX7_key cX7_key 3 none) { frames := 1, cells := 0, slots := 0, locals := 22 } (dC, dI) vwCl (tysW cI cZ) (wM x cI cZ) (g_bA 7 x) u [.ref (x 0), .int p0, .int p1] (f_X7_key u p0 p1) := by
  refine Met.ofW (cc := cX7_key) (maxL := 3) (ret := none) (by decide) rfl ?_
  intro p e s m args below meth c s₁ B hml hv
  obtain ⟨rfl, hP, hK⟩ := hv
  have hx := B.exec
  have hb := B.bytes
  have hr := B.returns
  have hts := atoms_spec (ws := .code yX7_key cX7_key 3 none :: gtbl) B.pre
  have hg : ∀ w ∈ gtbl, w.before _ s = true := fun w h => hts w (List.mem_cons_of_mem _ h)
  have hown : s.vm.findClass RX7 = some m.cls := findClass_of_methodNamed B.named
  have hlocks := B.notSynchronized
  have hS : va_S (g_bA 7 x) s.heap s.heap [] := va_S.rf
  have hl := lv_entry ([.ref (x 0), .int p0, .int p1]) (n := 3) (Nat.le_of_ble_eq_true rfl)
  rw [lg_entry_eq]
  generalize (lg_sl ([.ref (x 0), .int p0, .int p1]) ++ List.replicate (3 - (lg_sl ([.ref (x 0), .int p0, .int p1])).length) Slot.unset).toArray = ls at hl ⊢
  have hl : lv_has ls 3 [(0, .ref (x 0)), (1, .int p0), (2, .int p1)] := hl
  obtain ⟨F, hF⟩ : ∃ F, f_X7_key u p0 p1 = F := ⟨_, rfl⟩
  rw [hF]
  refine lv_aload_n hx hb dX7_key_0 rfl (lv_at hl 0 rfl) ?_
  refine lv_iload_n hx hb dX7_key_1 rfl (lv_at hl 1 rfl) ?_
  refine lv_bipush (v := 16) hx hb dX7_key_2 (by decide) ?_
  refine g_Si hx hb hml hown hg (c_X7_out l dC dI cI cZ x hi _ _ _) cs_X7_33 rfl rfl ⟨Nat.le_of_ble_eq_true rfl, Nat.le_of_ble_eq_true rfl⟩ hK hP hS rfl hl.1 rfl (Nat.le_of_ble_eq_true rfl) dX7_key_4 ⟨Nat.zero_le _, Nat.zero_le _⟩ (fun H locs hP hS => ?_)
  refine lv_iconst (v := 1) hx hb dX7_key_7 (by decide) ?_
  refine g_Vi hx hb hml hown hg (c_X7_fails l dC dI cI cZ x hi _ _ _) cs_X7_37 rfl rfl ⟨Nat.le_of_ble_eq_true rfl, Nat.le_of_ble_eq_true rfl⟩ hK hP hS (q0 := 0) rfl rfl rfl hl.1 rfl (Nat.le_of_ble_eq_true rfl) dX7_key_8 ⟨Nat.zero_le _, Nat.zero_le _⟩ (fun H locs hP hS => ?_)
  refine lv_if_eq (tgt := 15) hx hb dX7_key_11 (by decide) (fun c1 => ?_) (fun c1 => ?_)
  · have hF := (if_pos c1).symm.trans hF
    have hok := Eq.mp (if_pos c1) hok
    refine lv_aload_n hx hb dX7_key_15 rfl (lv_at hl 0 rfl) ?_
    refine ge_X7_down hx hb hg hown kf_X7_22 hK hP dX7_key_16 ?_
    refine lv_iload_n hx hb dX7_key_19 rfl (lv_at hl 1 rfl) ?_
    refine lv_iload_n hx hb dX7_key_20 rfl (lv_at hl 2 rfl) ?_
    obtain ⟨c2, hok⟩ := hok
    refine ma_down hi hx hb hK hP hS c2 dX7_key_21 (fun H locs hP hS => ?_)
    exact g_vret hx hb hr hlocks hP hS dX7_key_22 hF
  · have hF := (if_neg c1).symm.trans hF
    have hok := Eq.mp (if_neg c1) hok
    exact g_vret hx hb hr hlocks hP hS dX7_key_14 hF
