def f_X1_execute (u : BS) (p0 : Int32) : Int32 × BS :=
  let t1 : Int32 := ((p0 >>> ((8 : Int32) &&& 31)) &&& 15)
  let t2 : Int32 := ((p0 >>> ((4 : Int32) &&& 31)) &&& 15)
  let t3 : Int32 := (p0 &&& 255)
  if (p0 >>> ((12 : Int32) &&& 31)) = 0 then
    let r4 : Int32 × BS := f_X1_clearOrLeave u p0
    (r4.1, r4.2)
  else
    if (p0 >>> ((12 : Int32) &&& 31)) = 1 then
      let r5 : BS := f_X1_jump u p0
      (0, r5)
    else
      if (p0 >>> ((12 : Int32) &&& 31)) = 2 then
        let r6 : Int32 × BS := f_X1_enter u p0
        (r6.1, r6.2)
      else
        if (p0 >>> ((12 : Int32) &&& 31)) = 3 then
          if (f_X1_variable u t1) = t3 then
            let r7 : Int32 × BS := f_X1_skipIf u 1
            (r7.1, r7.2)
          else
            let r8 : Int32 × BS := f_X1_skipIf u 0
            (r8.1, r8.2)
        else
          if (p0 >>> ((12 : Int32) &&& 31)) = 4 then
            if (f_X1_variable u t1) = t3 then
              let r9 : Int32 × BS := f_X1_skipIf u 0
              (r9.1, r9.2)
            else
              let r10 : Int32 × BS := f_X1_skipIf u 1
              (r10.1, r10.2)
          else
            if (p0 >>> ((12 : Int32) &&& 31)) = 5 then
              if (f_X1_variable u t1) = (f_X1_variable u t2) then
                let r11 : Int32 × BS := f_X1_compare u p0 1
                (r11.1, r11.2)
              else
                let r12 : Int32 × BS := f_X1_compare u p0 0
                (r12.1, r12.2)
            else
              if (p0 >>> ((12 : Int32) &&& 31)) = 6 then
                let r13 : BS := f_X1_putVariable u t1 t3
                (0, r13)
              else
                if (p0 >>> ((12 : Int32) &&& 31)) = 7 then
                  let r14 : BS := f_X1_putVariable u t1 ((f_X1_variable u t1) + t3)
                  (0, r14)
                else
                  if (p0 >>> ((12 : Int32) &&& 31)) = 8 then
                    let r15 : Int32 × BS := f_X1_combine u (p0 &&& 15) t1 (f_X1_variable u t2)
                    (r15.1, r15.2)
                  else
                    if (p0 >>> ((12 : Int32) &&& 31)) = 9 then
                      if (f_X1_variable u t1) = (f_X1_variable u t2) then
                        let r16 : Int32 × BS := f_X1_compare u p0 1
                        (r16.1, r16.2)
                      else
                        let r17 : Int32 × BS := f_X1_compare u p0 0
                        (r17.1, r17.2)
                    else
                      if (p0 >>> ((12 : Int32) &&& 31)) = 10 then
                        let r18 : BS := f_X1_putIndex u p0
                        (0, r18)
                      else
                        if (p0 >>> ((12 : Int32) &&& 31)) = 11 then
                          let r19 : BS := f_X1_jump u ((p0 &&& 4095) + (f_X1_variable u 0))
                          (0, r19)
                        else
                          if (p0 >>> ((12 : Int32) &&& 31)) = 12 then
                            let u20 : BS := bs_random u ((((bq_random u) * 5) + 1) &&& 255)
                            let r21 : BS := f_X1_putVariable u20 t1 ((bq_random u20) &&& t3)
                            (0, r21)
                          else
                            if (p0 >>> ((12 : Int32) &&& 31)) = 13 then
                              let r22 : BS := f_X1_draw u (f_X1_variable u t1) (f_X1_variable u t2) (p0 &&& 15)
                              (0, r22)
                            else
                              if (p0 >>> ((12 : Int32) &&& 31)) = 14 then
                                let r23 : Int32 × BS := f_X1_skipByKey u t3 (f_X0_isDown u (f_X1_variable u t1))
                                (r23.1, r23.2)
                              else
                                if t3 < 48 then
                                  let r24 : Int32 × BS := f_X1_executeSystem u t1 t3
                                  (r24.1, r24.2)
                                else
                                  let r25 : Int32 × BS := f_X1_executeStore u t1 t3
                                  (r25.1, r25.2)
def ok_X1_execute (u : BS) (p0 : Int32) : Prop :=
  let t1 : Int32 := ((p0 >>> ((8 : Int32) &&& 31)) &&& 15)
  let t2 : Int32 := ((p0 >>> ((4 : Int32) &&& 31)) &&& 15)
  let t3 : Int32 := (p0 &&& 255)
  if (p0 >>> ((12 : Int32) &&& 31)) = 0 then
    ok_X1_clearOrLeave u p0 ∧
    let r4 : Int32 × BS := f_X1_clearOrLeave u p0
    True
  else
    if (p0 >>> ((12 : Int32) &&& 31)) = 1 then
      let r5 : BS := f_X1_jump u p0
      True
    else
      if (p0 >>> ((12 : Int32) &&& 31)) = 2 then
        ok_X1_enter u p0 ∧
        let r6 : Int32 × BS := f_X1_enter u p0
        True
      else
        if (p0 >>> ((12 : Int32) &&& 31)) = 3 then
          if (f_X1_variable u t1) = t3 then
            let r7 : Int32 × BS := f_X1_skipIf u 1
            True
          else
            let r8 : Int32 × BS := f_X1_skipIf u 0
            True
        else
          if (p0 >>> ((12 : Int32) &&& 31)) = 4 then
            if (f_X1_variable u t1) = t3 then
              let r9 : Int32 × BS := f_X1_skipIf u 0
              True
            else
              let r10 : Int32 × BS := f_X1_skipIf u 1
              True
          else
            if (p0 >>> ((12 : Int32) &&& 31)) = 5 then
              if (f_X1_variable u t1) = (f_X1_variable u t2) then
                let r11 : Int32 × BS := f_X1_compare u p0 1
                True
              else
                let r12 : Int32 × BS := f_X1_compare u p0 0
                True
            else
              if (p0 >>> ((12 : Int32) &&& 31)) = 6 then
                let r13 : BS := f_X1_putVariable u t1 t3
                True
              else
                if (p0 >>> ((12 : Int32) &&& 31)) = 7 then
                  let r14 : BS := f_X1_putVariable u t1 ((f_X1_variable u t1) + t3)
                  True
                else
                  if (p0 >>> ((12 : Int32) &&& 31)) = 8 then
                    let r15 : Int32 × BS := f_X1_combine u (p0 &&& 15) t1 (f_X1_variable u t2)
                    True
                  else
                    if (p0 >>> ((12 : Int32) &&& 31)) = 9 then
                      if (f_X1_variable u t1) = (f_X1_variable u t2) then
                        let r16 : Int32 × BS := f_X1_compare u p0 1
                        True
                      else
                        let r17 : Int32 × BS := f_X1_compare u p0 0
                        True
                    else
                      if (p0 >>> ((12 : Int32) &&& 31)) = 10 then
                        let r18 : BS := f_X1_putIndex u p0
                        True
                      else
                        if (p0 >>> ((12 : Int32) &&& 31)) = 11 then
                          let r19 : BS := f_X1_jump u ((p0 &&& 4095) + (f_X1_variable u 0))
                          True
                        else
                          if (p0 >>> ((12 : Int32) &&& 31)) = 12 then
                            let u20 : BS := bs_random u ((((bq_random u) * 5) + 1) &&& 255)
                            let r21 : BS := f_X1_putVariable u20 t1 ((bq_random u20) &&& t3)
                            True
                          else
                            if (p0 >>> ((12 : Int32) &&& 31)) = 13 then
                              ok_X1_draw u (f_X1_variable u t1) (f_X1_variable u t2) (p0 &&& 15) ∧
                              let r22 : BS := f_X1_draw u (f_X1_variable u t1) (f_X1_variable u t2) (p0 &&& 15)
                              True
                            else
                              if (p0 >>> ((12 : Int32) &&& 31)) = 14 then
                                let r23 : Int32 × BS := f_X1_skipByKey u t3 (f_X0_isDown u (f_X1_variable u t1))
                                True
                              else
                                if t3 < 48 then
                                  ok_X1_executeSystem u t1 t3 ∧
                                  let r24 : Int32 × BS := f_X1_executeSystem u t1 t3
                                  True
                                else
                                  ok_X1_executeStore u t1 t3 ∧
                                  let r25 : Int32 × BS := f_X1_executeStore u t1 t3
                                  True
set_option maxHeartbeats 4000000 in
set_option maxRecDepth 100000 in
theorem c_X1_execute (l : Launch) (dC : Nat → ClassId) (dI : Nat → Nat → Nat) (cI cZ : ClassId) (x : Nat → Nat) (hi : g_inj 13 x) (u : BS) (p0 : Int32) (hok : ok_X1_execute u p0) : g_Mi l yX1_execute (.code yX1_execute cX1_execute 5 (some .int)) { frames := 4, cells := 0, slots := 0, locals := 98 } (dC, dI) vwCl (tysW cI cZ) (wB x cI cZ) (g_bA 13 x) u [.ref (x 10), .int p0] (f_X1_execute u p0).1 (f_X1_execute u p0).2 := by
  refine Met.ofW (cc := cX1_execute) (maxL := 5) (ret := (some .int)) (by decide) rfl ?_
  intro p e s m args below meth c s₁ B hml hv
  obtain ⟨rfl, hP, hK⟩ := hv
  have hx := B.exec
  have hb := B.bytes
  have hr := B.returns
  have hts := atoms_spec (ws := .code yX1_execute cX1_execute 5 (some .int) :: gtbl) B.pre
  have hg : ∀ w ∈ gtbl, w.before _ s = true := fun w h => hts w (List.mem_cons_of_mem _ h)
  have hown : s.vm.findClass RX1 = some m.cls := findClass_of_methodNamed B.named
  have hlocks := B.notSynchronized
  have hS : va_S (g_bA 13 x) s.heap s.heap [] := va_S.rf
  have hl := lv_entry ([.ref (x 10), .int p0]) (n := 5) (Nat.le_of_ble_eq_true rfl)
  rw [lg_entry_eq]
  generalize (lg_sl ([.ref (x 10), .int p0]) ++ List.replicate (5 - (lg_sl ([.ref (x 10), .int p0])).length) Slot.unset).toArray = ls at hl ⊢
  have hl : lv_has ls 5 [(0, .ref (x 10)), (1, .int p0)] := hl
  obtain ⟨F, hF⟩ : ∃ F, f_X1_execute u p0 = F := ⟨_, rfl⟩
  rw [hF]
  refine lv_iload_n hx hb dX1_execute_0 rfl (lv_at hl 1 rfl) ?_
  refine lv_bipush (v := 8) hx hb dX1_execute_1 (by decide) ?_
  refine lv_ishr hx hb dX1_execute_3 ?_
  refine lv_bipush (v := 15) hx hb dX1_execute_4 (by decide) ?_
  refine lv_iand hx hb dX1_execute_6 ?_
  refine lv_istore_n hx hb dX1_execute_7 rfl hl (by decide) rfl (fun ls hl => ?_)
  have hl : lv_has ls 5 [(2, _), (0, _), (1, _)] := hl
  refine lv_iload_n hx hb dX1_execute_8 rfl (lv_at hl 2 rfl) ?_
  refine lv_iconst (v := 4) hx hb dX1_execute_9 (by decide) ?_
  refine lv_ishr hx hb dX1_execute_10 ?_
  refine lv_bipush (v := 15) hx hb dX1_execute_11 (by decide) ?_
  refine lv_iand hx hb dX1_execute_13 ?_
  refine lv_istore_n hx hb dX1_execute_14 rfl hl (by decide) rfl (fun ls hl => ?_)
  have hl : lv_has ls 5 [(3, _), (2, _), (0, _), (1, _)] := hl
  refine lv_iload_n hx hb dX1_execute_15 rfl (lv_at hl 3 rfl) ?_
  refine lv_sipush (v := 255) hx hb dX1_execute_16 (by decide) ?_
  refine lv_iand hx hb dX1_execute_19 ?_
  refine lv_istore hx hb dX1_execute_20 hl (by decide) rfl (fun ls hl => ?_)
  have hl : lv_has ls 5 [(4, _), (3, _), (2, _), (0, _), (1, _)] := hl
  refine lv_iload_n hx hb dX1_execute_22 rfl (lv_at hl 4 rfl) ?_
  refine lv_bipush (v := 12) hx hb dX1_execute_23 (by decide) ?_
  refine lv_ishr hx hb dX1_execute_25 ?_
  refine sw_case (v := 0) (fun c1 => ?_) (fun c1 => ?_)
  · have hF := (if_pos c1).symm.trans hF
    have hok := Eq.mp (if_pos c1) hok
    refine sw_in (off := 74) (tgt := 100) 0 hx hb dX1_execute_26 c1 (by decide) (by decide) ?_
    refine lv_aload_n hx hb dX1_execute_100 rfl (lv_at hl 3 rfl) ?_
    refine lv_iload_n hx hb dX1_execute_101 rfl (lv_at hl 4 rfl) ?_
    obtain ⟨c2, hok⟩ := hok
    refine g_Vi hx hb hml hown hg (c_X1_clearOrLeave l dC dI cI cZ x hi _ _ c2) cs_X1_57 rfl rfl ⟨Nat.le_of_ble_eq_true rfl, Nat.le_of_ble_eq_true rfl⟩ hK hP hS (q0 := 10) rfl rfl rfl hl.1 rfl (Nat.le_of_ble_eq_true rfl) dX1_execute_102 ⟨Nat.zero_le _, Nat.zero_le _⟩ (fun H locs hP hS => ?_)
    have hF : (_, _) = F := hF
    exact g_iret hx hb hr hlocks hP hS dX1_execute_105 (g_p1 hF) (g_p2 hF)
  · have hF := (if_neg c1).symm.trans hF
    have hok := Eq.mp (if_neg c1) hok
    refine sw_case (v := 1) (fun c3 => ?_) (fun c3 => ?_)
    · have hF := (if_pos c3).symm.trans hF
      have hok := Eq.mp (if_pos c3) hok
      refine sw_in (off := 80) (tgt := 106) 1 hx hb dX1_execute_26 c3 (by decide) (by decide) ?_
      refine lv_aload_n hx hb dX1_execute_106 rfl (lv_at hl 3 rfl) ?_
      refine lv_iload_n hx hb dX1_execute_107 rfl (lv_at hl 4 rfl) ?_
      refine g_Vv hx hb hml hown hg (c_X1_jump l dC dI cI cZ x hi _ _) cs_X1_50 rfl rfl ⟨Nat.le_of_ble_eq_true rfl, Nat.le_of_ble_eq_true rfl⟩ hK hP hS (q0 := 10) rfl rfl rfl hl.1 rfl (Nat.le_of_ble_eq_true rfl) dX1_execute_108 ⟨Nat.zero_le _, Nat.zero_le _⟩ (fun H locs hP hS => ?_)
      refine lv_iconst (v := 0) hx hb dX1_execute_111 (by decide) ?_
      have hF : (_, _) = F := hF
      exact g_iret hx hb hr hlocks hP hS dX1_execute_112 (g_p1 hF) (g_p2 hF)
    · have hF := (if_neg c3).symm.trans hF
      have hok := Eq.mp (if_neg c3) hok
      refine sw_case (v := 2) (fun c4 => ?_) (fun c4 => ?_)
      · have hF := (if_pos c4).symm.trans hF
        have hok := Eq.mp (if_pos c4) hok
        refine sw_in (off := 87) (tgt := 113) 2 hx hb dX1_execute_26 c4 (by decide) (by decide) ?_
        refine lv_aload_n hx hb dX1_execute_113 rfl (lv_at hl 3 rfl) ?_
        refine lv_iload_n hx hb dX1_execute_114 rfl (lv_at hl 4 rfl) ?_
        obtain ⟨c5, hok⟩ := hok
        refine g_Vi hx hb hml hown hg (c_X1_enter l dC dI cI cZ x hi _ _ c5) cs_X1_60 rfl rfl ⟨Nat.le_of_ble_eq_true rfl, Nat.le_of_ble_eq_true rfl⟩ hK hP hS (q0 := 10) rfl rfl rfl hl.1 rfl (Nat.le_of_ble_eq_true rfl) dX1_execute_115 ⟨Nat.zero_le _, Nat.zero_le _⟩ (fun H locs hP hS => ?_)
        have hF : (_, _) = F := hF
        exact g_iret hx hb hr hlocks hP hS dX1_execute_118 (g_p1 hF) (g_p2 hF)
      · have hF := (if_neg c4).symm.trans hF
        have hok := Eq.mp (if_neg c4) hok
        refine sw_case (v := 3) (fun c6 => ?_) (fun c6 => ?_)
        · have hF := (if_pos c6).symm.trans hF
          have hok := Eq.mp (if_pos c6) hok
          refine sw_in (off := 93) (tgt := 119) 3 hx hb dX1_execute_26 c6 (by decide) (by decide) ?_
          refine lv_aload_n hx hb dX1_execute_119 rfl (lv_at hl 3 rfl) ?_
          refine lv_aload_n hx hb dX1_execute_120 rfl (lv_at hl 3 rfl) ?_
          refine lv_iload_n hx hb dX1_execute_121 rfl (lv_at hl 2 rfl) ?_
          refine g_Vi hx hb hml hown hg (c_X1_variable l dC dI cI cZ x hi _ _) cs_X1_41 rfl rfl ⟨Nat.le_of_ble_eq_true rfl, Nat.le_of_ble_eq_true rfl⟩ hK hP hS (q0 := 10) rfl rfl rfl hl.1 rfl (Nat.le_of_ble_eq_true rfl) dX1_execute_122 ⟨Nat.zero_le _, Nat.zero_le _⟩ (fun H locs hP hS => ?_)
          refine lv_iload hx hb dX1_execute_125 (lv_at hl 0 rfl) ?_
          refine lv_icmp_ne (tgt := 134) hx hb dX1_execute_127 (by decide) (fun c7 => ?_) (fun c7 => ?_)
          · have hF := (if_neg c7).symm.trans hF
            have hok := Eq.mp (if_neg c7) hok
            refine lv_iconst (v := 0) hx hb dX1_execute_134 (by decide) ?_
            refine g_Vi hx hb hml hown hg (c_X1_skipIf l dC dI cI cZ x hi _ _) cs_X1_63 rfl rfl ⟨Nat.le_of_ble_eq_true rfl, Nat.le_of_ble_eq_true rfl⟩ hK hP hS (q0 := 10) rfl rfl rfl hl.1 rfl (Nat.le_of_ble_eq_true rfl) dX1_execute_135 ⟨Nat.zero_le _, Nat.zero_le _⟩ (fun H locs hP hS => ?_)
            have hF : (_, _) = F := hF
            exact g_iret hx hb hr hlocks hP hS dX1_execute_138 (g_p1 hF) (g_p2 hF)
          · have hF := (if_pos c7).symm.trans hF
            have hok := Eq.mp (if_pos c7) hok
            refine lv_iconst (v := 1) hx hb dX1_execute_130 (by decide) ?_
            refine lv_goto (tgt := 135) hx hb dX1_execute_131 (by decide) ?_
            refine g_Vi hx hb hml hown hg (c_X1_skipIf l dC dI cI cZ x hi _ _) cs_X1_63 rfl rfl ⟨Nat.le_of_ble_eq_true rfl, Nat.le_of_ble_eq_true rfl⟩ hK hP hS (q0 := 10) rfl rfl rfl hl.1 rfl (Nat.le_of_ble_eq_true rfl) dX1_execute_135 ⟨Nat.zero_le _, Nat.zero_le _⟩ (fun H locs hP hS => ?_)
            have hF : (_, _) = F := hF
            exact g_iret hx hb hr hlocks hP hS dX1_execute_138 (g_p1 hF) (g_p2 hF)
        · have hF := (if_neg c6).symm.trans hF
          have hok := Eq.mp (if_neg c6) hok
          refine sw_case (v := 4) (fun c8 => ?_) (fun c8 => ?_)
          · have hF := (if_pos c8).symm.trans hF
            have hok := Eq.mp (if_pos c8) hok
            refine sw_in (off := 113) (tgt := 139) 4 hx hb dX1_execute_26 c8 (by decide) (by decide) ?_
            refine lv_aload_n hx hb dX1_execute_139 rfl (lv_at hl 3 rfl) ?_
            refine lv_aload_n hx hb dX1_execute_140 rfl (lv_at hl 3 rfl) ?_
            refine lv_iload_n hx hb dX1_execute_141 rfl (lv_at hl 2 rfl) ?_
            refine g_Vi hx hb hml hown hg (c_X1_variable l dC dI cI cZ x hi _ _) cs_X1_41 rfl rfl ⟨Nat.le_of_ble_eq_true rfl, Nat.le_of_ble_eq_true rfl⟩ hK hP hS (q0 := 10) rfl rfl rfl hl.1 rfl (Nat.le_of_ble_eq_true rfl) dX1_execute_142 ⟨Nat.zero_le _, Nat.zero_le _⟩ (fun H locs hP hS => ?_)
            refine lv_iload hx hb dX1_execute_145 (lv_at hl 0 rfl) ?_
            refine lv_icmp_eq (tgt := 154) hx hb dX1_execute_147 (by decide) (fun c9 => ?_) (fun c9 => ?_)
            · have hF := (if_pos c9).symm.trans hF
              have hok := Eq.mp (if_pos c9) hok
              refine lv_iconst (v := 0) hx hb dX1_execute_154 (by decide) ?_
              refine g_Vi hx hb hml hown hg (c_X1_skipIf l dC dI cI cZ x hi _ _) cs_X1_63 rfl rfl ⟨Nat.le_of_ble_eq_true rfl, Nat.le_of_ble_eq_true rfl⟩ hK hP hS (q0 := 10) rfl rfl rfl hl.1 rfl (Nat.le_of_ble_eq_true rfl) dX1_execute_155 ⟨Nat.zero_le _, Nat.zero_le _⟩ (fun H locs hP hS => ?_)
              have hF : (_, _) = F := hF
              exact g_iret hx hb hr hlocks hP hS dX1_execute_158 (g_p1 hF) (g_p2 hF)
            · have hF := (if_neg c9).symm.trans hF
              have hok := Eq.mp (if_neg c9) hok
              refine lv_iconst (v := 1) hx hb dX1_execute_150 (by decide) ?_
              refine lv_goto (tgt := 155) hx hb dX1_execute_151 (by decide) ?_
              refine g_Vi hx hb hml hown hg (c_X1_skipIf l dC dI cI cZ x hi _ _) cs_X1_63 rfl rfl ⟨Nat.le_of_ble_eq_true rfl, Nat.le_of_ble_eq_true rfl⟩ hK hP hS (q0 := 10) rfl rfl rfl hl.1 rfl (Nat.le_of_ble_eq_true rfl) dX1_execute_155 ⟨Nat.zero_le _, Nat.zero_le _⟩ (fun H locs hP hS => ?_)
              have hF : (_, _) = F := hF
              exact g_iret hx hb hr hlocks hP hS dX1_execute_158 (g_p1 hF) (g_p2 hF)
          · have hF := (if_neg c8).symm.trans hF
            have hok := Eq.mp (if_neg c8) hok
            refine sw_case (v := 5) (fun c10 => ?_) (fun c10 => ?_)
            · have hF := (if_pos c10).symm.trans hF
              have hok := Eq.mp (if_pos c10) hok
              refine sw_in (off := 133) (tgt := 159) 5 hx hb dX1_execute_26 c10 (by decide) (by decide) ?_
              refine lv_aload_n hx hb dX1_execute_159 rfl (lv_at hl 3 rfl) ?_
              refine lv_iload_n hx hb dX1_execute_160 rfl (lv_at hl 4 rfl) ?_
              refine lv_aload_n hx hb dX1_execute_161 rfl (lv_at hl 3 rfl) ?_
              refine lv_iload_n hx hb dX1_execute_162 rfl (lv_at hl 2 rfl) ?_
              refine g_Vi hx hb hml hown hg (c_X1_variable l dC dI cI cZ x hi _ _) cs_X1_41 rfl rfl ⟨Nat.le_of_ble_eq_true rfl, Nat.le_of_ble_eq_true rfl⟩ hK hP hS (q0 := 10) rfl rfl rfl hl.1 rfl (Nat.le_of_ble_eq_true rfl) dX1_execute_163 ⟨Nat.zero_le _, Nat.zero_le _⟩ (fun H locs hP hS => ?_)
              refine lv_aload_n hx hb dX1_execute_166 rfl (lv_at hl 3 rfl) ?_
              refine lv_iload_n hx hb dX1_execute_167 rfl (lv_at hl 1 rfl) ?_
              refine g_Vi hx hb hml hown hg (c_X1_variable l dC dI cI cZ x hi _ _) cs_X1_41 rfl rfl ⟨Nat.le_of_ble_eq_true rfl, Nat.le_of_ble_eq_true rfl⟩ hK hP hS (q0 := 10) rfl rfl rfl hl.1 rfl (Nat.le_of_ble_eq_true rfl) dX1_execute_168 ⟨Nat.zero_le _, Nat.zero_le _⟩ (fun H locs hP hS => ?_)
              refine lv_icmp_ne (tgt := 178) hx hb dX1_execute_171 (by decide) (fun c11 => ?_) (fun c11 => ?_)
              · have hF := (if_neg c11).symm.trans hF
                have hok := Eq.mp (if_neg c11) hok
                refine lv_iconst (v := 0) hx hb dX1_execute_178 (by decide) ?_
                refine g_Vi hx hb hml hown hg (c_X1_compare l dC dI cI cZ x hi _ _ _) cs_X1_67 rfl rfl ⟨Nat.le_of_ble_eq_true rfl, Nat.le_of_ble_eq_true rfl⟩ hK hP hS (q0 := 10) rfl rfl rfl hl.1 rfl (Nat.le_of_ble_eq_true rfl) dX1_execute_179 ⟨Nat.zero_le _, Nat.zero_le _⟩ (fun H locs hP hS => ?_)
                have hF : (_, _) = F := hF
                exact g_iret hx hb hr hlocks hP hS dX1_execute_182 (g_p1 hF) (g_p2 hF)
              · have hF := (if_pos c11).symm.trans hF
                have hok := Eq.mp (if_pos c11) hok
                refine lv_iconst (v := 1) hx hb dX1_execute_174 (by decide) ?_
                refine lv_goto (tgt := 179) hx hb dX1_execute_175 (by decide) ?_
                refine g_Vi hx hb hml hown hg (c_X1_compare l dC dI cI cZ x hi _ _ _) cs_X1_67 rfl rfl ⟨Nat.le_of_ble_eq_true rfl, Nat.le_of_ble_eq_true rfl⟩ hK hP hS (q0 := 10) rfl rfl rfl hl.1 rfl (Nat.le_of_ble_eq_true rfl) dX1_execute_179 ⟨Nat.zero_le _, Nat.zero_le _⟩ (fun H locs hP hS => ?_)
                have hF : (_, _) = F := hF
                exact g_iret hx hb hr hlocks hP hS dX1_execute_182 (g_p1 hF) (g_p2 hF)
            · have hF := (if_neg c10).symm.trans hF
              have hok := Eq.mp (if_neg c10) hok
              refine sw_case (v := 6) (fun c12 => ?_) (fun c12 => ?_)
              · have hF := (if_pos c12).symm.trans hF
                have hok := Eq.mp (if_pos c12) hok
                refine sw_in (off := 157) (tgt := 183) 6 hx hb dX1_execute_26 c12 (by decide) (by decide) ?_
                refine lv_aload_n hx hb dX1_execute_183 rfl (lv_at hl 3 rfl) ?_
                refine lv_iload_n hx hb dX1_execute_184 rfl (lv_at hl 2 rfl) ?_
                refine lv_iload hx hb dX1_execute_185 (lv_at hl 0 rfl) ?_
                refine g_Vv hx hb hml hown hg (c_X1_putVariable l dC dI cI cZ x hi _ _ _) cs_X1_71 rfl rfl ⟨Nat.le_of_ble_eq_true rfl, Nat.le_of_ble_eq_true rfl⟩ hK hP hS (q0 := 10) rfl rfl rfl hl.1 rfl (Nat.le_of_ble_eq_true rfl) dX1_execute_187 ⟨Nat.zero_le _, Nat.zero_le _⟩ (fun H locs hP hS => ?_)
                refine lv_iconst (v := 0) hx hb dX1_execute_190 (by decide) ?_
                have hF : (_, _) = F := hF
                exact g_iret hx hb hr hlocks hP hS dX1_execute_191 (g_p1 hF) (g_p2 hF)
              · have hF := (if_neg c12).symm.trans hF
                have hok := Eq.mp (if_neg c12) hok
                refine sw_case (v := 7) (fun c13 => ?_) (fun c13 => ?_)
                · have hF := (if_pos c13).symm.trans hF
                  have hok := Eq.mp (if_pos c13) hok
                  refine sw_in (off := 166) (tgt := 192) 7 hx hb dX1_execute_26 c13 (by decide) (by decide) ?_
                  refine lv_aload_n hx hb dX1_execute_192 rfl (lv_at hl 3 rfl) ?_
                  refine lv_iload_n hx hb dX1_execute_193 rfl (lv_at hl 2 rfl) ?_
                  refine lv_aload_n hx hb dX1_execute_194 rfl (lv_at hl 3 rfl) ?_
                  refine lv_iload_n hx hb dX1_execute_195 rfl (lv_at hl 2 rfl) ?_
                  refine g_Vi hx hb hml hown hg (c_X1_variable l dC dI cI cZ x hi _ _) cs_X1_41 rfl rfl ⟨Nat.le_of_ble_eq_true rfl, Nat.le_of_ble_eq_true rfl⟩ hK hP hS (q0 := 10) rfl rfl rfl hl.1 rfl (Nat.le_of_ble_eq_true rfl) dX1_execute_196 ⟨Nat.zero_le _, Nat.zero_le _⟩ (fun H locs hP hS => ?_)
                  refine lv_iload hx hb dX1_execute_199 (lv_at hl 0 rfl) ?_
                  refine lv_iadd hx hb dX1_execute_201 ?_
                  refine g_Vv hx hb hml hown hg (c_X1_putVariable l dC dI cI cZ x hi _ _ _) cs_X1_71 rfl rfl ⟨Nat.le_of_ble_eq_true rfl, Nat.le_of_ble_eq_true rfl⟩ hK hP hS (q0 := 10) rfl rfl rfl hl.1 rfl (Nat.le_of_ble_eq_true rfl) dX1_execute_202 ⟨Nat.zero_le _, Nat.zero_le _⟩ (fun H locs hP hS => ?_)
                  refine lv_iconst (v := 0) hx hb dX1_execute_205 (by decide) ?_
                  have hF : (_, _) = F := hF
                  exact g_iret hx hb hr hlocks hP hS dX1_execute_206 (g_p1 hF) (g_p2 hF)
                · have hF := (if_neg c13).symm.trans hF
                  have hok := Eq.mp (if_neg c13) hok
                  refine sw_case (v := 8) (fun c14 => ?_) (fun c14 => ?_)
                  · have hF := (if_pos c14).symm.trans hF
                    have hok := Eq.mp (if_pos c14) hok
                    refine sw_in (off := 181) (tgt := 207) 8 hx hb dX1_execute_26 c14 (by decide) (by decide) ?_
                    refine lv_aload_n hx hb dX1_execute_207 rfl (lv_at hl 3 rfl) ?_
                    refine lv_iload_n hx hb dX1_execute_208 rfl (lv_at hl 4 rfl) ?_
                    refine lv_bipush (v := 15) hx hb dX1_execute_209 (by decide) ?_
                    refine lv_iand hx hb dX1_execute_211 ?_
                    refine lv_iload_n hx hb dX1_execute_212 rfl (lv_at hl 2 rfl) ?_
                    refine lv_aload_n hx hb dX1_execute_213 rfl (lv_at hl 3 rfl) ?_
                    refine lv_iload_n hx hb dX1_execute_214 rfl (lv_at hl 1 rfl) ?_
                    refine g_Vi hx hb hml hown hg (c_X1_variable l dC dI cI cZ x hi _ _) cs_X1_41 rfl rfl ⟨Nat.le_of_ble_eq_true rfl, Nat.le_of_ble_eq_true rfl⟩ hK hP hS (q0 := 10) rfl rfl rfl hl.1 rfl (Nat.le_of_ble_eq_true rfl) dX1_execute_215 ⟨Nat.zero_le _, Nat.zero_le _⟩ (fun H locs hP hS => ?_)
                    refine g_Vi hx hb hml hown hg (c_X1_combine l dC dI cI cZ x hi _ _ _ _) cs_X1_75 rfl rfl ⟨Nat.le_of_ble_eq_true rfl, Nat.le_of_ble_eq_true rfl⟩ hK hP hS (q0 := 10) rfl rfl rfl hl.1 rfl (Nat.le_of_ble_eq_true rfl) dX1_execute_218 ⟨Nat.zero_le _, Nat.zero_le _⟩ (fun H locs hP hS => ?_)
                    have hF : (_, _) = F := hF
                    exact g_iret hx hb hr hlocks hP hS dX1_execute_221 (g_p1 hF) (g_p2 hF)
                  · have hF := (if_neg c14).symm.trans hF
                    have hok := Eq.mp (if_neg c14) hok
                    refine sw_case (v := 9) (fun c15 => ?_) (fun c15 => ?_)
                    · have hF := (if_pos c15).symm.trans hF
                      have hok := Eq.mp (if_pos c15) hok
                      refine sw_in (off := 133) (tgt := 159) 9 hx hb dX1_execute_26 c15 (by decide) (by decide) ?_
                      refine lv_aload_n hx hb dX1_execute_159 rfl (lv_at hl 3 rfl) ?_
                      refine lv_iload_n hx hb dX1_execute_160 rfl (lv_at hl 4 rfl) ?_
                      refine lv_aload_n hx hb dX1_execute_161 rfl (lv_at hl 3 rfl) ?_
                      refine lv_iload_n hx hb dX1_execute_162 rfl (lv_at hl 2 rfl) ?_
                      refine g_Vi hx hb hml hown hg (c_X1_variable l dC dI cI cZ x hi _ _) cs_X1_41 rfl rfl ⟨Nat.le_of_ble_eq_true rfl, Nat.le_of_ble_eq_true rfl⟩ hK hP hS (q0 := 10) rfl rfl rfl hl.1 rfl (Nat.le_of_ble_eq_true rfl) dX1_execute_163 ⟨Nat.zero_le _, Nat.zero_le _⟩ (fun H locs hP hS => ?_)
                      refine lv_aload_n hx hb dX1_execute_166 rfl (lv_at hl 3 rfl) ?_
                      refine lv_iload_n hx hb dX1_execute_167 rfl (lv_at hl 1 rfl) ?_
                      refine g_Vi hx hb hml hown hg (c_X1_variable l dC dI cI cZ x hi _ _) cs_X1_41 rfl rfl ⟨Nat.le_of_ble_eq_true rfl, Nat.le_of_ble_eq_true rfl⟩ hK hP hS (q0 := 10) rfl rfl rfl hl.1 rfl (Nat.le_of_ble_eq_true rfl) dX1_execute_168 ⟨Nat.zero_le _, Nat.zero_le _⟩ (fun H locs hP hS => ?_)
                      refine lv_icmp_ne (tgt := 178) hx hb dX1_execute_171 (by decide) (fun c16 => ?_) (fun c16 => ?_)
                      · have hF := (if_neg c16).symm.trans hF
                        have hok := Eq.mp (if_neg c16) hok
                        refine lv_iconst (v := 0) hx hb dX1_execute_178 (by decide) ?_
                        refine g_Vi hx hb hml hown hg (c_X1_compare l dC dI cI cZ x hi _ _ _) cs_X1_67 rfl rfl ⟨Nat.le_of_ble_eq_true rfl, Nat.le_of_ble_eq_true rfl⟩ hK hP hS (q0 := 10) rfl rfl rfl hl.1 rfl (Nat.le_of_ble_eq_true rfl) dX1_execute_179 ⟨Nat.zero_le _, Nat.zero_le _⟩ (fun H locs hP hS => ?_)
                        have hF : (_, _) = F := hF
                        exact g_iret hx hb hr hlocks hP hS dX1_execute_182 (g_p1 hF) (g_p2 hF)
                      · have hF := (if_pos c16).symm.trans hF
                        have hok := Eq.mp (if_pos c16) hok
                        refine lv_iconst (v := 1) hx hb dX1_execute_174 (by decide) ?_
                        refine lv_goto (tgt := 179) hx hb dX1_execute_175 (by decide) ?_
                        refine g_Vi hx hb hml hown hg (c_X1_compare l dC dI cI cZ x hi _ _ _) cs_X1_67 rfl rfl ⟨Nat.le_of_ble_eq_true rfl, Nat.le_of_ble_eq_true rfl⟩ hK hP hS (q0 := 10) rfl rfl rfl hl.1 rfl (Nat.le_of_ble_eq_true rfl) dX1_execute_179 ⟨Nat.zero_le _, Nat.zero_le _⟩ (fun H locs hP hS => ?_)
                        have hF : (_, _) = F := hF
                        exact g_iret hx hb hr hlocks hP hS dX1_execute_182 (g_p1 hF) (g_p2 hF)
                    · have hF := (if_neg c15).symm.trans hF
                      have hok := Eq.mp (if_neg c15) hok
                      refine sw_case (v := 10) (fun c17 => ?_) (fun c17 => ?_)
                      · have hF := (if_pos c17).symm.trans hF
                        have hok := Eq.mp (if_pos c17) hok
                        refine sw_in (off := 196) (tgt := 222) 10 hx hb dX1_execute_26 c17 (by decide) (by decide) ?_
                        refine lv_aload_n hx hb dX1_execute_222 rfl (lv_at hl 3 rfl) ?_
                        refine lv_iload_n hx hb dX1_execute_223 rfl (lv_at hl 4 rfl) ?_
                        refine g_Vv hx hb hml hown hg (c_X1_putIndex l dC dI cI cZ x hi _ _) cs_X1_79 rfl rfl ⟨Nat.le_of_ble_eq_true rfl, Nat.le_of_ble_eq_true rfl⟩ hK hP hS (q0 := 10) rfl rfl rfl hl.1 rfl (Nat.le_of_ble_eq_true rfl) dX1_execute_224 ⟨Nat.zero_le _, Nat.zero_le _⟩ (fun H locs hP hS => ?_)
                        refine lv_iconst (v := 0) hx hb dX1_execute_227 (by decide) ?_
                        have hF : (_, _) = F := hF
                        exact g_iret hx hb hr hlocks hP hS dX1_execute_228 (g_p1 hF) (g_p2 hF)
                      · have hF := (if_neg c17).symm.trans hF
                        have hok := Eq.mp (if_neg c17) hok
                        refine sw_case (v := 11) (fun c18 => ?_) (fun c18 => ?_)
                        · have hF := (if_pos c18).symm.trans hF
                          have hok := Eq.mp (if_pos c18) hok
                          refine sw_in (off := 203) (tgt := 229) 11 hx hb dX1_execute_26 c18 (by decide) (by decide) ?_
                          refine lv_aload_n hx hb dX1_execute_229 rfl (lv_at hl 3 rfl) ?_
                          refine lv_iload_n hx hb dX1_execute_230 rfl (lv_at hl 4 rfl) ?_
                          refine lv_sipush (v := 4095) hx hb dX1_execute_231 (by decide) ?_
                          refine lv_iand hx hb dX1_execute_234 ?_
                          refine lv_aload_n hx hb dX1_execute_235 rfl (lv_at hl 3 rfl) ?_
                          refine lv_iconst (v := 0) hx hb dX1_execute_236 (by decide) ?_
                          refine g_Vi hx hb hml hown hg (c_X1_variable l dC dI cI cZ x hi _ _) cs_X1_41 rfl rfl ⟨Nat.le_of_ble_eq_true rfl, Nat.le_of_ble_eq_true rfl⟩ hK hP hS (q0 := 10) rfl rfl rfl hl.1 rfl (Nat.le_of_ble_eq_true rfl) dX1_execute_237 ⟨Nat.zero_le _, Nat.zero_le _⟩ (fun H locs hP hS => ?_)
                          refine lv_iadd hx hb dX1_execute_240 ?_
                          refine g_Vv hx hb hml hown hg (c_X1_jump l dC dI cI cZ x hi _ _) cs_X1_50 rfl rfl ⟨Nat.le_of_ble_eq_true rfl, Nat.le_of_ble_eq_true rfl⟩ hK hP hS (q0 := 10) rfl rfl rfl hl.1 rfl (Nat.le_of_ble_eq_true rfl) dX1_execute_241 ⟨Nat.zero_le _, Nat.zero_le _⟩ (fun H locs hP hS => ?_)
                          refine lv_iconst (v := 0) hx hb dX1_execute_244 (by decide) ?_
                          have hF : (_, _) = F := hF
                          exact g_iret hx hb hr hlocks hP hS dX1_execute_245 (g_p1 hF) (g_p2 hF)
                        · have hF := (if_neg c18).symm.trans hF
                          have hok := Eq.mp (if_neg c18) hok
                          refine sw_case (v := 12) (fun c19 => ?_) (fun c19 => ?_)
                          · have hF := (if_pos c19).symm.trans hF
                            have hok := Eq.mp (if_pos c19) hok
                            refine sw_in (off := 220) (tgt := 246) 12 hx hb dX1_execute_26 c19 (by decide) (by decide) ?_
                            refine lv_aload_n hx hb dX1_execute_246 rfl (lv_at hl 3 rfl) ?_
                            refine lv_aload_n hx hb dX1_execute_247 rfl (lv_at hl 3 rfl) ?_
                            refine ge_X1_random hx hb hg hown kf_X1_38 hK hP dX1_execute_248 ?_
                            refine lv_iconst (v := 5) hx hb dX1_execute_251 (by decide) ?_
                            refine lv_imul hx hb dX1_execute_252 ?_
                            refine lv_iconst (v := 1) hx hb dX1_execute_253 (by decide) ?_
                            refine lv_iadd hx hb dX1_execute_254 ?_
                            refine lv_sipush (v := 255) hx hb dX1_execute_255 (by decide) ?_
                            refine lv_iand hx hb dX1_execute_258 ?_
                            refine pu_X1_random hi hx hb hg hown kf_X1_38 hK hP hS dX1_execute_259 (fun H locs hP hS => ?_)
                            refine lv_aload_n hx hb dX1_execute_262 rfl (lv_at hl 3 rfl) ?_
                            refine lv_iload_n hx hb dX1_execute_263 rfl (lv_at hl 2 rfl) ?_
                            refine lv_aload_n hx hb dX1_execute_264 rfl (lv_at hl 3 rfl) ?_
                            refine ge_X1_random hx hb hg hown kf_X1_38 hK hP dX1_execute_265 ?_
                            refine lv_iload hx hb dX1_execute_268 (lv_at hl 0 rfl) ?_
                            refine lv_iand hx hb dX1_execute_270 ?_
                            refine g_Vv hx hb hml hown hg (c_X1_putVariable l dC dI cI cZ x hi _ _ _) cs_X1_71 rfl rfl ⟨Nat.le_of_ble_eq_true rfl, Nat.le_of_ble_eq_true rfl⟩ hK hP hS (q0 := 10) rfl rfl rfl hl.1 rfl (Nat.le_of_ble_eq_true rfl) dX1_execute_271 ⟨Nat.zero_le _, Nat.zero_le _⟩ (fun H locs hP hS => ?_)
                            refine lv_iconst (v := 0) hx hb dX1_execute_274 (by decide) ?_
                            have hF : (_, _) = F := hF
                            exact g_iret hx hb hr hlocks hP hS dX1_execute_275 (g_p1 hF) (g_p2 hF)
                          · have hF := (if_neg c19).symm.trans hF
                            have hok := Eq.mp (if_neg c19) hok
                            refine sw_case (v := 13) (fun c20 => ?_) (fun c20 => ?_)
                            · have hF := (if_pos c20).symm.trans hF
                              have hok := Eq.mp (if_pos c20) hok
                              refine sw_in (off := 250) (tgt := 276) 13 hx hb dX1_execute_26 c20 (by decide) (by decide) ?_
                              refine lv_aload_n hx hb dX1_execute_276 rfl (lv_at hl 3 rfl) ?_
                              refine lv_aload_n hx hb dX1_execute_277 rfl (lv_at hl 3 rfl) ?_
                              refine lv_iload_n hx hb dX1_execute_278 rfl (lv_at hl 2 rfl) ?_
                              refine g_Vi hx hb hml hown hg (c_X1_variable l dC dI cI cZ x hi _ _) cs_X1_41 rfl rfl ⟨Nat.le_of_ble_eq_true rfl, Nat.le_of_ble_eq_true rfl⟩ hK hP hS (q0 := 10) rfl rfl rfl hl.1 rfl (Nat.le_of_ble_eq_true rfl) dX1_execute_279 ⟨Nat.zero_le _, Nat.zero_le _⟩ (fun H locs hP hS => ?_)
                              refine lv_aload_n hx hb dX1_execute_282 rfl (lv_at hl 3 rfl) ?_
                              refine lv_iload_n hx hb dX1_execute_283 rfl (lv_at hl 1 rfl) ?_
                              refine g_Vi hx hb hml hown hg (c_X1_variable l dC dI cI cZ x hi _ _) cs_X1_41 rfl rfl ⟨Nat.le_of_ble_eq_true rfl, Nat.le_of_ble_eq_true rfl⟩ hK hP hS (q0 := 10) rfl rfl rfl hl.1 rfl (Nat.le_of_ble_eq_true rfl) dX1_execute_284 ⟨Nat.zero_le _, Nat.zero_le _⟩ (fun H locs hP hS => ?_)
                              refine lv_iload_n hx hb dX1_execute_287 rfl (lv_at hl 4 rfl) ?_
                              refine lv_bipush (v := 15) hx hb dX1_execute_288 (by decide) ?_
                              refine lv_iand hx hb dX1_execute_290 ?_
                              obtain ⟨c21, hok⟩ := hok
                              refine g_Vv hx hb hml hown hg (c_X1_draw l dC dI cI cZ x hi _ _ _ _ c21) cs_X1_82 rfl rfl ⟨Nat.le_of_ble_eq_true rfl, Nat.le_of_ble_eq_true rfl⟩ hK hP hS (q0 := 10) rfl rfl rfl hl.1 rfl (Nat.le_of_ble_eq_true rfl) dX1_execute_291 ⟨Nat.zero_le _, Nat.zero_le _⟩ (fun H locs hP hS => ?_)
                              refine lv_iconst (v := 0) hx hb dX1_execute_294 (by decide) ?_
                              have hF : (_, _) = F := hF
                              exact g_iret hx hb hr hlocks hP hS dX1_execute_295 (g_p1 hF) (g_p2 hF)
                            · have hF := (if_neg c20).symm.trans hF
                              have hok := Eq.mp (if_neg c20) hok
                              refine sw_case (v := 14) (fun c22 => ?_) (fun c22 => ?_)
                              · have hF := (if_pos c22).symm.trans hF
                                have hok := Eq.mp (if_pos c22) hok
                                refine sw_in (off := 270) (tgt := 296) 14 hx hb dX1_execute_26 c22 (by decide) (by decide) ?_
                                refine lv_aload_n hx hb dX1_execute_296 rfl (lv_at hl 3 rfl) ?_
                                refine lv_iload hx hb dX1_execute_297 (lv_at hl 0 rfl) ?_
                                refine lv_aload_n hx hb dX1_execute_299 rfl (lv_at hl 3 rfl) ?_
                                refine ge_X1_keys hx hb hg hown kf_X1_24 hK hP dX1_execute_300 ?_
                                refine lv_aload_n hx hb dX1_execute_303 rfl (lv_at hl 3 rfl) ?_
                                refine lv_iload_n hx hb dX1_execute_304 rfl (lv_at hl 2 rfl) ?_
                                refine g_Vi hx hb hml hown hg (c_X1_variable l dC dI cI cZ x hi _ _) cs_X1_41 rfl rfl ⟨Nat.le_of_ble_eq_true rfl, Nat.le_of_ble_eq_true rfl⟩ hK hP hS (q0 := 10) rfl rfl rfl hl.1 rfl (Nat.le_of_ble_eq_true rfl) dX1_execute_305 ⟨Nat.zero_le _, Nat.zero_le _⟩ (fun H locs hP hS => ?_)
                                refine g_Vi hx hb hml hown hg (c_X0_isDown l dC dI cI cZ x hi _ _) cs_X1_86 rfl rfl ⟨Nat.le_of_ble_eq_true rfl, Nat.le_of_ble_eq_true rfl⟩ hK hP hS (q0 := 3) rfl rfl rfl hl.1 rfl (Nat.le_of_ble_eq_true rfl) dX1_execute_308 ⟨Nat.zero_le _, Nat.zero_le _⟩ (fun H locs hP hS => ?_)
                                refine g_Vi hx hb hml hown hg (c_X1_skipByKey l dC dI cI cZ x hi _ _ _) cs_X1_92 rfl rfl ⟨Nat.le_of_ble_eq_true rfl, Nat.le_of_ble_eq_true rfl⟩ hK hP hS (q0 := 10) rfl rfl rfl hl.1 rfl (Nat.le_of_ble_eq_true rfl) dX1_execute_311 ⟨Nat.zero_le _, Nat.zero_le _⟩ (fun H locs hP hS => ?_)
                                have hF : (_, _) = F := hF
                                exact g_iret hx hb hr hlocks hP hS dX1_execute_314 (g_p1 hF) (g_p2 hF)
                              · have hF := (if_neg c22).symm.trans hF
                                have hok := Eq.mp (if_neg c22) hok
                                refine sw_def (tgt := 315) [0, 1, 2, 3, 4, 5, 6, 7, 8, 9, 10, 11, 12, 13, 14] hx hb dX1_execute_26 (List.forall_mem_cons.mpr ⟨c1, List.forall_mem_cons.mpr ⟨c3, List.forall_mem_cons.mpr ⟨c4, List.forall_mem_cons.mpr ⟨c6, List.forall_mem_cons.mpr ⟨c8, List.forall_mem_cons.mpr ⟨c10, List.forall_mem_cons.mpr ⟨c12, List.forall_mem_cons.mpr ⟨c13, List.forall_mem_cons.mpr ⟨c14, List.forall_mem_cons.mpr ⟨c15, List.forall_mem_cons.mpr ⟨c17, List.forall_mem_cons.mpr ⟨c18, List.forall_mem_cons.mpr ⟨c19, List.forall_mem_cons.mpr ⟨c20, List.forall_mem_cons.mpr ⟨c22, fun _ h => absurd h List.not_mem_nil⟩⟩⟩⟩⟩⟩⟩⟩⟩⟩⟩⟩⟩⟩⟩) (by decide) (by decide) ?_
                                refine lv_iload hx hb dX1_execute_315 (lv_at hl 0 rfl) ?_
                                refine lv_bipush (v := 48) hx hb dX1_execute_317 (by decide) ?_
                                refine lv_icmp_lt (tgt := 332) hx hb dX1_execute_319 (by decide) (fun c23 => ?_) (fun c23 => ?_)
                                · have hF := (if_pos c23).symm.trans hF
                                  have hok := Eq.mp (if_pos c23) hok
                                  refine lv_aload_n hx hb dX1_execute_332 rfl (lv_at hl 3 rfl) ?_
                                  refine lv_iload_n hx hb dX1_execute_333 rfl (lv_at hl 2 rfl) ?_
                                  refine lv_iload hx hb dX1_execute_334 (lv_at hl 0 rfl) ?_
                                  obtain ⟨c24, hok⟩ := hok
                                  refine g_Vi hx hb hml hown hg (c_X1_executeSystem l dC dI cI cZ x hi _ _ _ c24) cs_X1_99 rfl rfl ⟨Nat.le_of_ble_eq_true rfl, Nat.le_of_ble_eq_true rfl⟩ hK hP hS (q0 := 10) rfl rfl rfl hl.1 rfl (Nat.le_of_ble_eq_true rfl) dX1_execute_336 ⟨Nat.zero_le _, Nat.zero_le _⟩ (fun H locs hP hS => ?_)
                                  have hF : (_, _) = F := hF
                                  exact g_iret hx hb hr hlocks hP hS dX1_execute_339 (g_p1 hF) (g_p2 hF)
                                · have hF := (if_neg c23).symm.trans hF
                                  have hok := Eq.mp (if_neg c23) hok
                                  refine lv_aload_n hx hb dX1_execute_322 rfl (lv_at hl 3 rfl) ?_
                                  refine lv_iload_n hx hb dX1_execute_323 rfl (lv_at hl 2 rfl) ?_
                                  refine lv_iload hx hb dX1_execute_324 (lv_at hl 0 rfl) ?_
                                  obtain ⟨c25, hok⟩ := hok
                                  refine g_Vi hx hb hml hown hg (c_X1_executeStore l dC dI cI cZ x hi _ _ _ c25) cs_X1_95 rfl rfl ⟨Nat.le_of_ble_eq_true rfl, Nat.le_of_ble_eq_true rfl⟩ hK hP hS (q0 := 10) rfl rfl rfl hl.1 rfl (Nat.le_of_ble_eq_true rfl) dX1_execute_326 ⟨Nat.zero_le _, Nat.zero_le _⟩ (fun H locs hP hS => ?_)
                                  refine lv_goto (tgt := 339) hx hb dX1_execute_329 (by decide) ?_
                                  have hF : (_, _) = F := hF
                                  exact g_iret hx hb hr hlocks hP hS dX1_execute_339 (g_p1 hF) (g_p2 hF)
def f_X1_step (u : BS) : Int32 × BS :=
  let t1 : Int32 := (bq_pc u)
  let t2 : Int32 := (f_X2_pair u (bq_pc u))
  let r3 : BS := f_X1_jump u ((bq_pc u) + 2)
  let r4 : Int32 × BS := f_X1_execute r3 t2
  let t5 : Int32 := r4.1
  if t5 = 0 then
    (t5, r4.2)
  else
    let u6 : BS := bs_pc r4.2 t1
    (t5, u6)
def ok_X1_step (u : BS) : Prop :=
  let t1 : Int32 := (bq_pc u)
  let t2 : Int32 := (f_X2_pair u (bq_pc u))
  let r3 : BS := f_X1_jump u ((bq_pc u) + 2)
  ok_X1_execute r3 t2 ∧
  let r4 : Int32 × BS := f_X1_execute r3 t2
  let t5 : Int32 := r4.1
  if t5 = 0 then
    True
  else
    let u6 : BS := bs_pc r4.2 t1
    True
set_option maxHeartbeats 4000000 in
set_option maxRecDepth 100000 in
theorem c_X1_step (l : Launch) (dC : Nat → ClassId) (dI : Nat → Nat → Nat) (cI cZ : ClassId) (x : Nat → Nat) (hi : g_inj 13 x) (u : BS) (hok : ok_X1_step u) : g_Mi l yX1_step (.code yX1_step cX1_step 4 (some .int)) { frames := 5, cells := 0, slots := 0, locals := 122 } (dC, dI) vwCl (tysW cI cZ) (wB x cI cZ) (g_bA 13 x) u [.ref (x 10)] (f_X1_step u).1 (f_X1_step u).2 := by
  refine Met.ofW (cc := cX1_step) (maxL := 4) (ret := (some .int)) (by decide) rfl ?_
  intro p e s m args below meth c s₁ B hml hv
  obtain ⟨rfl, hP, hK⟩ := hv
  have hx := B.exec
  have hb := B.bytes
  have hr := B.returns
  have hts := atoms_spec (ws := .code yX1_step cX1_step 4 (some .int) :: gtbl) B.pre
  have hg : ∀ w ∈ gtbl, w.before _ s = true := fun w h => hts w (List.mem_cons_of_mem _ h)
  have hown : s.vm.findClass RX1 = some m.cls := findClass_of_methodNamed B.named
  have hlocks := B.notSynchronized
  have hS : va_S (g_bA 13 x) s.heap s.heap [] := va_S.rf
  have hl := lv_entry ([.ref (x 10)]) (n := 4) (Nat.le_of_ble_eq_true rfl)
  rw [lg_entry_eq]
  generalize (lg_sl ([.ref (x 10)]) ++ List.replicate (4 - (lg_sl ([.ref (x 10)])).length) Slot.unset).toArray = ls at hl ⊢
  have hl : lv_has ls 4 [(0, .ref (x 10))] := hl
  obtain ⟨F, hF⟩ : ∃ F, f_X1_step u = F := ⟨_, rfl⟩
  rw [hF]
  refine lv_aload_n hx hb dX1_step_0 rfl (lv_at hl 0 rfl) ?_
  refine ge_X1_pc hx hb hg hown kf_X1_16 hK hP dX1_step_1 ?_
  refine lv_istore_n hx hb dX1_step_4 rfl hl (by decide) rfl (fun ls hl => ?_)
  have hl : lv_has ls 4 [(1, _), (0, _)] := hl
  refine lv_aload_n hx hb dX1_step_5 rfl (lv_at hl 1 rfl) ?_
  refine ge_X1_memory hx hb hg hown kf_X1_20 hK hP dX1_step_6 ?_
  refine lv_aload_n hx hb dX1_step_9 rfl (lv_at hl 1 rfl) ?_
  refine ge_X1_pc hx hb hg hown kf_X1_16 hK hP dX1_step_10 ?_
  refine g_Vi hx hb hml hown hg (c_X2_pair l dC dI cI cZ x hi _ _) cs_X1_45 rfl rfl ⟨Nat.le_of_ble_eq_true rfl, Nat.le_of_ble_eq_true rfl⟩ hK hP hS (q0 := 1) rfl rfl rfl hl.1 rfl (Nat.le_of_ble_eq_true rfl) dX1_step_13 ⟨Nat.zero_le _, Nat.zero_le _⟩ (fun H locs hP hS => ?_)
  refine lv_istore_n hx hb dX1_step_16 rfl hl (by decide) rfl (fun ls hl => ?_)
  have hl : lv_has ls 4 [(2, _), (1, _), (0, _)] := hl
  refine lv_aload_n hx hb dX1_step_17 rfl (lv_at hl 2 rfl) ?_
  refine lv_aload_n hx hb dX1_step_18 rfl (lv_at hl 2 rfl) ?_
  refine ge_X1_pc hx hb hg hown kf_X1_16 hK hP dX1_step_19 ?_
  refine lv_iconst (v := 2) hx hb dX1_step_22 (by decide) ?_
  refine lv_iadd hx hb dX1_step_23 ?_
  refine g_Vv hx hb hml hown hg (c_X1_jump l dC dI cI cZ x hi _ _) cs_X1_50 rfl rfl ⟨Nat.le_of_ble_eq_true rfl, Nat.le_of_ble_eq_true rfl⟩ hK hP hS (q0 := 10) rfl rfl rfl hl.1 rfl (Nat.le_of_ble_eq_true rfl) dX1_step_24 ⟨Nat.zero_le _, Nat.zero_le _⟩ (fun H locs hP hS => ?_)
  refine lv_aload_n hx hb dX1_step_27 rfl (lv_at hl 2 rfl) ?_
  refine lv_iload_n hx hb dX1_step_28 rfl (lv_at hl 0 rfl) ?_
  obtain ⟨c1, hok⟩ := hok
  refine g_Vi hx hb hml hown hg (c_X1_execute l dC dI cI cZ x hi _ _ c1) cs_X1_54 rfl rfl ⟨Nat.le_of_ble_eq_true rfl, Nat.le_of_ble_eq_true rfl⟩ hK hP hS (q0 := 10) rfl rfl rfl hl.1 rfl (Nat.le_of_ble_eq_true rfl) dX1_step_29 ⟨Nat.zero_le _, Nat.zero_le _⟩ (fun H locs hP hS => ?_)
  refine lv_istore_n hx hb dX1_step_32 rfl hl (by decide) rfl (fun ls hl => ?_)
  have hl : lv_has ls 4 [(3, _), (2, _), (1, _), (0, _)] := hl
  refine lv_iload_n hx hb dX1_step_33 rfl (lv_at hl 0 rfl) ?_
  refine lv_if_eq (tgt := 42) hx hb dX1_step_34 (by decide) (fun c2 => ?_) (fun c2 => ?_)
  · have hF := (if_pos c2).symm.trans hF
    have hok := Eq.mp (if_pos c2) hok
    refine lv_iload_n hx hb dX1_step_42 rfl (lv_at hl 0 rfl) ?_
    have hF : (_, _) = F := hF
    exact g_iret hx hb hr hlocks hP hS dX1_step_43 (g_p1 hF) (g_p2 hF)
  · have hF := (if_neg c2).symm.trans hF
    have hok := Eq.mp (if_neg c2) hok
    refine lv_aload_n hx hb dX1_step_37 rfl (lv_at hl 3 rfl) ?_
    refine lv_iload_n hx hb dX1_step_38 rfl (lv_at hl 2 rfl) ?_
    refine pu_X1_pc hi hx hb hg hown kf_X1_16 hK hP hS dX1_step_39 (fun H locs hP hS => ?_)
    refine lv_iload_n hx hb dX1_step_42 rfl (lv_at hl 0 rfl) ?_
    have hF : (_, _) = F := hF
    exact g_iret hx hb hr hlocks hP hS dX1_step_43 (g_p1 hF) (g_p2 hF)
