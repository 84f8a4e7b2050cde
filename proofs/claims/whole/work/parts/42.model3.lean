def f_X7_goesOn (u : MS) (p0 : Int32) : MS :=
  if p0 = 0 then
    let u1 : MS := ms_v u (upd (mq_v u) 17 (((mq_v u 17) + 2) &&& 4095))
    u1
  else
    let u2 : MS := ms_v u (upd (mq_v u) 17 (((mq_v u 17) + 4) &&& 4095))
    u2
set_option maxHeartbeats 4000000 in
set_option maxRecDepth 100000 in
theorem c_X7_goesOn (l : Launch) (dC : Nat → ClassId) (dI : Nat → Nat → Nat) (cI cZ : ClassId) (x : Nat → Nat) (hi : g_inj 7 x) (u : MS) (p0 : Int32) : g_Mv l yX7_goesOn (.code yX7_goesOn cX7_goesOn 2 none) { frames := 0, cells := 0, slots := 0, locals := 0 } (dC, dI) vwCl (tysW cI cZ) (wM x cI cZ) (g_bA 7 x) u [.ref (x 0), .int p0] (f_X7_goesOn u p0) := by
  refine Met.ofW (cc := cX7_goesOn) (maxL := 2) (ret := none) (by decide) rfl ?_
  intro p e s m args below meth c s₁ B hml hv
  obtain ⟨rfl, hP, hK⟩ := hv
  have hx := B.exec
  have hb := B.bytes
  have hr := B.returns
  have hts := atoms_spec (ws := .code yX7_goesOn cX7_goesOn 2 none :: gtbl) B.pre
  have hg : ∀ w ∈ gtbl, w.before _ s = true := fun w h => hts w (List.mem_cons_of_mem _ h)
  have hown : s.vm.findClass RX7 = some m.cls := findClass_of_methodNamed B.named
  have hlocks := B.notSynchronized
  have hS : va_S (g_bA 7 x) s.heap s.heap [] := va_S.rf
  have hl := lv_entry ([.ref (x 0), .int p0]) (n := 2) (Nat.le_of_ble_eq_true rfl)
  rw [lg_entry_eq]
  generalize (lg_sl ([.ref (x 0), .int p0]) ++ List.replicate (2 - (lg_sl ([.ref (x 0), .int p0])).length) Slot.unset).toArray = ls at hl ⊢
  have hl : lv_has ls 2 [(0, .ref (x 0)), (1, .int p0)] := hl
  obtain ⟨F, hF⟩ : ∃ F, f_X7_goesOn u p0 = F := ⟨_, rfl⟩
  rw [hF]
  refine lv_aload_n hx hb dX7_goesOn_0 rfl (lv_at hl 0 rfl) ?_
  refine ge_X7_v hx hb hg hown kf_X7_16 hK hP dX7_goesOn_1 ?_
  refine lv_bipush (v := 17) hx hb dX7_goesOn_4 (by decide) ?_
  refine lv_aload_n hx hb dX7_goesOn_6 rfl (lv_at hl 0 rfl) ?_
  refine ge_X7_v hx hb hg hown kf_X7_16 hK hP dX7_goesOn_7 ?_
  refine lv_bipush (v := 17) hx hb dX7_goesOn_10 (by decide) ?_
  refine mlc_v 17 (by decide) hx hb hK hP dX7_goesOn_12 ?_
  refine lv_iload_n hx hb dX7_goesOn_13 rfl (lv_at hl 1 rfl) ?_
  refine lv_if_eq (tgt := 21) hx hb dX7_goesOn_14 (by decide) (fun c1 => ?_) (fun c1 => ?_)
  · have hF := (if_pos c1).symm.trans hF
    refine lv_iconst (v := 2) hx hb dX7_goesOn_21 (by decide) ?_
    refine lv_iadd hx hb dX7_goesOn_22 ?_
    refine lv_sipush (v := 4095) hx hb dX7_goesOn_23 (by decide) ?_
    refine lv_iand hx hb dX7_goesOn_26 ?_
    refine mac_v 17 (by decide) hi hx hb hK hP hS dX7_goesOn_27 (fun H locs hP hS => ?_)
    exact g_vret hx hb hr hlocks hP hS dX7_goesOn_28 hF
  · have hF := (if_neg c1).symm.trans hF
    refine lv_iconst (v := 4) hx hb dX7_goesOn_17 (by decide) ?_
    refine lv_goto (tgt := 22) hx hb dX7_goesOn_18 (by decide) ?_
    refine lv_iadd hx hb dX7_goesOn_22 ?_
    refine lv_sipush (v := 4095) hx hb dX7_goesOn_23 (by decide) ?_
    refine lv_iand hx hb dX7_goesOn_26 ?_
    refine mac_v 17 (by decide) hi hx hb hK hP hS dX7_goesOn_27 (fun H locs hP hS => ?_)
    exact g_vret hx hb hr hlocks hP hS dX7_goesOn_28 hF
def f_X7_zero_L : Nat → MS → Int32 → Int32 → Int32 × MS
  | 0, u, _, _ => (0, u)
  | n + 1, u, a1, a2 =>
    if 2048 ≤ a2 then
      let r3 : MS := f_X7_goesOn u 0
      (0, r3)
    else
      let u4 : MS := ms_mem u (upd (mq_mem u) (a2).toNatClampNeg 0)
      let t5 : Int32 := a2 + Int32.ofInt 1
      f_X7_zero_L n u4 a1 t5
def ok_X7_zero_L : Nat → MS → Int32 → Int32 → Prop
  | 0, _, _, _ => False
  | n + 1, u, a1, a2 =>
    if 2048 ≤ a2 then
      let r3 : MS := f_X7_goesOn u 0
      True
    else
      vp_in a2 2048 ∧
      let u4 : MS := ms_mem u (upd (mq_mem u) (a2).toNatClampNeg 0)
      let t5 : Int32 := a2 + Int32.ofInt 1
      ok_X7_zero_L n u4 a1 t5
def f_X7_zero (u : MS) (p0 : Int32) : Int32 × MS :=
  if p0 = 224 then
    f_X7_zero_L 257 u p0 1792
  else
    if p0 = 238 then
      if (mq_v u 18) = 0 then
        (2, u)
      else
        let u1 : MS := ms_v u (upd (mq_v u) 18 ((mq_v u 18) - 1))
        let u2 : MS := ms_v u1 (upd (mq_v u1) 17 (mq_back u1 ((mq_v u1 18)).toNatClampNeg))
        (0, u2)
    else
      (1, u)
def ok_X7_zero (u : MS) (p0 : Int32) : Prop :=
  if p0 = 224 then
    ok_X7_zero_L 257 u p0 1792
  else
    if p0 = 238 then
      if (mq_v u 18) = 0 then
        True
      else
        let u1 : MS := ms_v u (upd (mq_v u) 18 ((mq_v u 18) - 1))
        vp_in (mq_v u1 18) 12 ∧
        let u2 : MS := ms_v u1 (upd (mq_v u1) 17 (mq_back u1 ((mq_v u1 18)).toNatClampNeg))
        True
    else
      True
set_option maxHeartbeats 4000000 in
set_option maxRecDepth 100000 in
theorem c_X7_zero (l : Launch) (dC : Nat → ClassId) (dI : Nat → Nat → Nat) (cI cZ : ClassId) (x : Nat → Nat) (hi : g_inj 7 x) (u : MS) (p0 : Int32) (hok : ok_X7_zero u p0) : g_Mi l yX7_zero (.code yX7_zero cX7_zero 3 (some .int)) { frames := 1, cells := 0, slots := 0, locals := 21 } (dC, dI) vwCl (tysW cI cZ) (wM x cI cZ) (g_bA 7 x) u [.ref (x 0), .int p0] (f_X7_zero u p0).1 (f_X7_zero u p0).2 := by
  refine Met.ofW (cc := cX7_zero) (maxL := 3) (ret := (some .int)) (by decide) rfl ?_
  intro p e s m args below meth c s₁ B hml hv
  obtain ⟨rfl, hP, hK⟩ := hv
  have hx := B.exec
  have hb := B.bytes
  have hr := B.returns
  have hts := atoms_spec (ws := .code yX7_zero cX7_zero 3 (some .int) :: gtbl) B.pre
  have hg : ∀ w ∈ gtbl, w.before _ s = true := fun w h => hts w (List.mem_cons_of_mem _ h)
  have hown : s.vm.findClass RX7 = some m.cls := findClass_of_methodNamed B.named
  have hlocks := B.notSynchronized
  have hS : va_S (g_bA 7 x) s.heap s.heap [] := va_S.rf
  have hl := lv_entry ([.ref (x 0), .int p0]) (n := 3) (Nat.le_of_ble_eq_true rfl)
  rw [lg_entry_eq]
  generalize (lg_sl ([.ref (x 0), .int p0]) ++ List.replicate (3 - (lg_sl ([.ref (x 0), .int p0])).length) Slot.unset).toArray = ls at hl ⊢
  have hl : lv_has ls 3 [(0, .ref (x 0)), (1, .int p0)] := hl
  obtain ⟨F, hF⟩ : ∃ F, f_X7_zero u p0 = F := ⟨_, rfl⟩
  rw [hF]
  have loop : ∀ (n : Nat), (∀ (u : MS) (a1 : Int32) (a2 : Int32) (H : Heap) (locs : List Loc) (ls : Array Slot), f_X7_zero_L n u a1 a2 = F → ok_X7_zero_L n u a1 a2 → va_P (dC, dI) vwCl (wM x cI cZ u) H → va_S (g_bA 7 x) s.heap H locs → lv_has ls 3 [(0, .ref (x 0)), (1, .int a1), (2, .int a2)] → W p l e (headSpec (.code yX7_zero cX7_zero 3 (some .int) :: gtbl) { frames := 1, cells := 0, slots := 0, locals := 21 }).room s m ([.ref (x 0), .int p0] : List Value).toArray below meth c H locs 0 0 (MQ below (va_Qi (fun r1 v1 => r1 = F.1 ∧ v1 = F.2) (fun v1 t => va_P (dC, dI) vwCl (wM x cI cZ v1) t.heap) (g_bA 7 x)) ([.ref (x 0), .int p0] : List Value).toArray s 0 0 (g_bA 7 x)) (F0 m 11 ls [])) := by
    intro n
    induction n with
    | zero => intro u a1 a2 H locs ls hF hok; exact hok.elim
    | succ n ih =>
      intro u a1 a2 H locs ls hF hok hP hS hl
      refine lv_iload_n hx hb dX7_zero_11 rfl (lv_at hl 2 rfl) ?_
      refine lv_sipush (v := 2048) hx hb dX7_zero_12 (by decide) ?_
      refine lv_icmp_ge (tgt := 31) hx hb dX7_zero_15 (by decide) (fun c5 => ?_) (fun c5 => ?_)
      · have hF := (if_pos c5).symm.trans hF
        have hok := Eq.mp (if_pos c5) hok
        refine lv_aload_n hx hb dX7_zero_31 rfl (lv_at hl 0 rfl) ?_
        refine lv_iconst (v := 0) hx hb dX7_zero_32 (by decide) ?_
        refine g_Vv hx hb hml hown hg (c_X7_goesOn l dC dI cI cZ x hi _ _) cs_X7_154 rfl rfl ⟨Nat.le_of_ble_eq_true rfl, Nat.le_of_ble_eq_true rfl⟩ hK hP hS (q0 := 0) rfl rfl rfl hl.1 rfl (Nat.le_of_ble_eq_true rfl) dX7_zero_33 ⟨Nat.zero_le _, Nat.zero_le _⟩ (fun H locs hP hS => ?_)
        refine lv_iconst (v := 0) hx hb dX7_zero_36 (by decide) ?_
        have hF : (_, _) = F := hF
        exact g_iret hx hb hr hlocks hP hS dX7_zero_37 (g_p1 hF) (g_p2 hF)
      · have hF := (if_neg c5).symm.trans hF
        have hok := Eq.mp (if_neg c5) hok
        refine lv_aload_n hx hb dX7_zero_18 rfl (lv_at hl 0 rfl) ?_
        refine ge_X7_memory hx hb hg hown kf_X7_7 hK hP dX7_zero_19 ?_
        refine lv_iload_n hx hb dX7_zero_22 rfl (lv_at hl 2 rfl) ?_
        refine lv_iconst (v := 0) hx hb dX7_zero_23 (by decide) ?_
        obtain ⟨c6, hok⟩ := hok
        refine ma_mem hi hx hb hK hP hS c6 dX7_zero_24 (fun H locs hP hS => ?_)
        refine lv_iinc hx hb dX7_zero_25 hl (k := 2) rfl rfl (by decide) rfl (fun ls hl => ?_)
        have hl : lv_has ls 3 [(2, _), (0, _), (1, _)] := hl
        refine lv_goto (tgt := 11) hx hb dX7_zero_28 (by decide) ?_
        exact ih _ _ _ _ _ _ hF hok hP hS (lv_sub hl [1, 2, 0] rfl)
  refine lv_iload_n hx hb dX7_zero_0 rfl (lv_at hl 1 rfl) ?_
  refine lv_sipush (v := 224) hx hb dX7_zero_1 (by decide) ?_
  refine lv_icmp_ne (tgt := 38) hx hb dX7_zero_4 (by decide) (fun c1 => ?_) (fun c1 => ?_)
  · have hF := (if_neg c1).symm.trans hF
    have hok := Eq.mp (if_neg c1) hok
    refine lv_iload_n hx hb dX7_zero_38 rfl (lv_at hl 1 rfl) ?_
    refine lv_sipush (v := 238) hx hb dX7_zero_39 (by decide) ?_
    refine lv_icmp_eq (tgt := 47) hx hb dX7_zero_42 (by decide) (fun c2 => ?_) (fun c2 => ?_)
    · have hF := (if_pos c2).symm.trans hF
      have hok := Eq.mp (if_pos c2) hok
      refine lv_aload_n hx hb dX7_zero_47 rfl (lv_at hl 0 rfl) ?_
      refine ge_X7_v hx hb hg hown kf_X7_16 hK hP dX7_zero_48 ?_
      refine lv_bipush (v := 18) hx hb dX7_zero_51 (by decide) ?_
      refine mlc_v 18 (by decide) hx hb hK hP dX7_zero_53 ?_
      refine lv_if_ne (tgt := 59) hx hb dX7_zero_54 (by decide) (fun c3 => ?_) (fun c3 => ?_)
      · have hF := (if_neg c3).symm.trans hF
        have hok := Eq.mp (if_neg c3) hok
        refine lv_aload_n hx hb dX7_zero_59 rfl (lv_at hl 0 rfl) ?_
        refine ge_X7_v hx hb hg hown kf_X7_16 hK hP dX7_zero_60 ?_
        refine lv_bipush (v := 18) hx hb dX7_zero_63 (by decide) ?_
        refine lv_dup2_11 hx hb dX7_zero_65 rfl rfl ?_
        refine mlc_v 18 (by decide) hx hb hK hP dX7_zero_66 ?_
        refine lv_iconst (v := 1) hx hb dX7_zero_67 (by decide) ?_
        refine lv_isub hx hb dX7_zero_68 ?_
        refine mac_v 18 (by decide) hi hx hb hK hP hS dX7_zero_69 (fun H locs hP hS => ?_)
        refine lv_aload_n hx hb dX7_zero_70 rfl (lv_at hl 0 rfl) ?_
        refine ge_X7_v hx hb hg hown kf_X7_16 hK hP dX7_zero_71 ?_
        refine lv_bipush (v := 17) hx hb dX7_zero_74 (by decide) ?_
        refine lv_aload_n hx hb dX7_zero_76 rfl (lv_at hl 0 rfl) ?_
        refine ge_X7_back hx hb hg hown kf_X7_19 hK hP dX7_zero_77 ?_
        refine lv_aload_n hx hb dX7_zero_80 rfl (lv_at hl 0 rfl) ?_
        refine ge_X7_v hx hb hg hown kf_X7_16 hK hP dX7_zero_81 ?_
        refine lv_bipush (v := 18) hx hb dX7_zero_84 (by decide) ?_
        refine mlc_v 18 (by decide) hx hb hK hP dX7_zero_86 ?_
        obtain ⟨c4, hok⟩ := hok
        refine ml_back hx hb hK hP c4 dX7_zero_87 ?_
        refine mac_v 17 (by decide) hi hx hb hK hP hS dX7_zero_88 (fun H locs hP hS => ?_)
        refine lv_iconst (v := 0) hx hb dX7_zero_89 (by decide) ?_
        have hF : (_, _) = F := hF
        exact g_iret hx hb hr hlocks hP hS dX7_zero_90 (g_p1 hF) (g_p2 hF)
      · have hF := (if_pos c3).symm.trans hF
        have hok := Eq.mp (if_pos c3) hok
        refine lv_iconst (v := 2) hx hb dX7_zero_57 (by decide) ?_
        have hF : (_, _) = F := hF
        exact g_iret hx hb hr hlocks hP hS dX7_zero_58 (g_p1 hF) (g_p2 hF)
    · have hF := (if_neg c2).symm.trans hF
      have hok := Eq.mp (if_neg c2) hok
      refine lv_iconst (v := 1) hx hb dX7_zero_45 (by decide) ?_
      have hF : (_, _) = F := hF
      exact g_iret hx hb hr hlocks hP hS dX7_zero_46 (g_p1 hF) (g_p2 hF)
  · have hF := (if_pos c1).symm.trans hF
    have hok := Eq.mp (if_pos c1) hok
    refine lv_sipush (v := 1792) hx hb dX7_zero_7 (by decide) ?_
    refine lv_istore_n hx hb dX7_zero_10 rfl hl (by decide) rfl (fun ls hl => ?_)
    have hl : lv_has ls 3 [(2, _), (0, _), (1, _)] := hl
    exact (loop 257) _ _ _ _ _ _ hF hok hP hS (lv_sub hl [1, 2, 0] rfl)
def f_X7_call (u : MS) (p0 : Int32) : Int32 × MS :=
  if (mq_v u 18) = 12 then
    (2, u)
  else
    let u1 : MS := ms_back u (upd (mq_back u) ((mq_v u 18)).toNatClampNeg (((mq_v u 17) + 2) &&& 4095))
    let u2 : MS := ms_v u1 (upd (mq_v u1) 18 ((mq_v u1 18) + 1))
    let u3 : MS := ms_v u2 (upd (mq_v u2) 17 p0)
    (0, u3)
def ok_X7_call (u : MS) (p0 : Int32) : Prop :=
  if (mq_v u 18) = 12 then
    True
  else
    vp_in (mq_v u 18) 12 ∧
    let u1 : MS := ms_back u (upd (mq_back u) ((mq_v u 18)).toNatClampNeg (((mq_v u 17) + 2) &&& 4095))
    let u2 : MS := ms_v u1 (upd (mq_v u1) 18 ((mq_v u1 18) + 1))
    let u3 : MS := ms_v u2 (upd (mq_v u2) 17 p0)
    True
set_option maxHeartbeats 4000000 in
set_option maxRecDepth 100000 in
theorem c_X7_call (l : Launch) (dC : Nat → ClassId) (dI : Nat → Nat → Nat) (cI cZ : ClassId) (x : Nat → Nat) (hi : g_inj 7 x) (u : MS) (p0 : Int32) (hok : ok_X7_call u p0) : g_Mi l yX7_call (.code yX7_call cX7_call 2 (some .int)) { frames := 0, cells := 0, slots := 0, locals := 0 } (dC, dI) vwCl (tysW cI cZ) (wM x cI cZ) (g_bA 7 x) u [.ref (x 0), .int p0] (f_X7_call u p0).1 (f_X7_call u p0).2 := by
  refine Met.ofW (cc := cX7_call) (maxL := 2) (ret := (some .int)) (by decide) rfl ?_
  intro p e s m args below meth c s₁ B hml hv
  obtain ⟨rfl, hP, hK⟩ := hv
  have hx := B.exec
  have hb := B.bytes
  have hr := B.returns
  have hts := atoms_spec (ws := .code yX7_call cX7_call 2 (some .int) :: gtbl) B.pre
  have hg : ∀ w ∈ gtbl, w.before _ s = true := fun w h => hts w (List.mem_cons_of_mem _ h)
  have hown : s.vm.findClass RX7 = some m.cls := findClass_of_methodNamed B.named
  have hlocks := B.notSynchronized
  have hS : va_S (g_bA 7 x) s.heap s.heap [] := va_S.rf
  have hl := lv_entry ([.ref (x 0), .int p0]) (n := 2) (Nat.le_of_ble_eq_true rfl)
  rw [lg_entry_eq]
  generalize (lg_sl ([.ref (x 0), .int p0]) ++ List.replicate (2 - (lg_sl ([.ref (x 0), .int p0])).length) Slot.unset).toArray = ls at hl ⊢
  have hl : lv_has ls 2 [(0, .ref (x 0)), (1, .int p0)] := hl
  obtain ⟨F, hF⟩ : ∃ F, f_X7_call u p0 = F := ⟨_, rfl⟩
  rw [hF]
  refine lv_aload_n hx hb dX7_call_0 rfl (lv_at hl 0 rfl) ?_
  refine ge_X7_v hx hb hg hown kf_X7_16 hK hP dX7_call_1 ?_
  refine lv_bipush (v := 18) hx hb dX7_call_4 (by decide) ?_
  refine mlc_v 18 (by decide) hx hb hK hP dX7_call_6 ?_
  refine lv_bipush (v := 12) hx hb dX7_call_7 (by decide) ?_
  refine lv_icmp_ne (tgt := 14) hx hb dX7_call_9 (by decide) (fun c1 => ?_) (fun c1 => ?_)
  · have hF := (if_neg c1).symm.trans hF
    have hok := Eq.mp (if_neg c1) hok
    refine lv_aload_n hx hb dX7_call_14 rfl (lv_at hl 0 rfl) ?_
    refine ge_X7_back hx hb hg hown kf_X7_19 hK hP dX7_call_15 ?_
    refine lv_aload_n hx hb dX7_call_18 rfl (lv_at hl 0 rfl) ?_
    refine ge_X7_v hx hb hg hown kf_X7_16 hK hP dX7_call_19 ?_
    refine lv_bipush (v := 18) hx hb dX7_call_22 (by decide) ?_
    refine mlc_v 18 (by decide) hx hb hK hP dX7_call_24 ?_
    refine lv_aload_n hx hb dX7_call_25 rfl (lv_at hl 0 rfl) ?_
    refine ge_X7_v hx hb hg hown kf_X7_16 hK hP dX7_call_26 ?_
    refine lv_bipush (v := 17) hx hb dX7_call_29 (by decide) ?_
    refine mlc_v 17 (by decide) hx hb hK hP dX7_call_31 ?_
    refine lv_iconst (v := 2) hx hb dX7_call_32 (by decide) ?_
    refine lv_iadd hx hb dX7_call_33 ?_
    refine lv_sipush (v := 4095) hx hb dX7_call_34 (by decide) ?_
    refine lv_iand hx hb dX7_call_37 ?_
    obtain ⟨c2, hok⟩ := hok
    refine ma_back hi hx hb hK hP hS c2 dX7_call_38 (fun H locs hP hS => ?_)
    refine lv_aload_n hx hb dX7_call_39 rfl (lv_at hl 0 rfl) ?_
    refine ge_X7_v hx hb hg hown kf_X7_16 hK hP dX7_call_40 ?_
    refine lv_bipush (v := 18) hx hb dX7_call_43 (by decide) ?_
    refine lv_dup2_11 hx hb dX7_call_45 rfl rfl ?_
    refine mlc_v 18 (by decide) hx hb hK hP dX7_call_46 ?_
    refine lv_iconst (v := 1) hx hb dX7_call_47 (by decide) ?_
    refine lv_iadd hx hb dX7_call_48 ?_
    refine mac_v 18 (by decide) hi hx hb hK hP hS dX7_call_49 (fun H locs hP hS => ?_)
    refine lv_aload_n hx hb dX7_call_50 rfl (lv_at hl 0 rfl) ?_
    refine ge_X7_v hx hb hg hown kf_X7_16 hK hP dX7_call_51 ?_
    refine lv_bipush (v := 17) hx hb dX7_call_54 (by decide) ?_
    refine lv_iload_n hx hb dX7_call_56 rfl (lv_at hl 1 rfl) ?_
    refine mac_v 17 (by decide) hi hx hb hK hP hS dX7_call_57 (fun H locs hP hS => ?_)
    refine lv_iconst (v := 0) hx hb dX7_call_58 (by decide) ?_
    have hF : (_, _) = F := hF
    exact g_iret hx hb hr hlocks hP hS dX7_call_59 (g_p1 hF) (g_p2 hF)
  · have hF := (if_pos c1).symm.trans hF
    have hok := Eq.mp (if_pos c1) hok
    refine lv_iconst (v := 2) hx hb dX7_call_12 (by decide) ?_
    have hF : (_, _) = F := hF
    exact g_iret hx hb hr hlocks hP hS dX7_call_13 (g_p1 hF) (g_p2 hF)
def f_X7_eight (u : MS) (p0 : Int32) (p1 : Int32) (p2 : Int32) : Int32 × MS :=
  let t1 : Int32 := (mq_v u (p0).toNatClampNeg)
  let t2 : Int32 := (mq_v u (p1).toNatClampNeg)
  if p2 = 0 then
    let u3 : MS := ms_v u (upd (mq_v u) (p0).toNatClampNeg (t2 &&& 255))
    let r4 : MS := f_X7_goesOn u3 0
    (0, r4)
  else
    if p2 = 1 then
      let t5 : Int32 := (t1 ||| t2)
      let u6 : MS := ms_v u (upd (mq_v u) (p0).toNatClampNeg (t5 &&& 255))
      let r7 : MS := f_X7_goesOn u6 0
      (0, r7)
    else
      if p2 = 2 then
        let t8 : Int32 := (t1 &&& t2)
        let u9 : MS := ms_v u (upd (mq_v u) (p0).toNatClampNeg (t8 &&& 255))
        let r10 : MS := f_X7_goesOn u9 0
        (0, r10)
      else
        if p2 = 3 then
          let t11 : Int32 := (t1 ^^^ t2)
          let u12 : MS := ms_v u (upd (mq_v u) (p0).toNatClampNeg (t11 &&& 255))
          let r13 : MS := f_X7_goesOn u12 0
          (0, r13)
        else
          if p2 = 4 then
            let t14 : Int32 := (t1 + t2)
            let u15 : MS := ms_v u (upd (mq_v u) (p0).toNatClampNeg (t14 &&& 255))
            let u16 : MS := ms_v u15 (upd (mq_v u15) 15 (t14 >>> ((8 : Int32) &&& 31)))
            let r17 : MS := f_X7_goesOn u16 0
            (0, r17)
          else
            if p2 = 5 then
              let t18 : Int32 := (t1 - t2)
              let u19 : MS := ms_v u (upd (mq_v u) (p0).toNatClampNeg (t18 &&& 255))
              if 0 ≤ t18 then
                let u20 : MS := ms_v u19 (upd (mq_v u19) 15 1)
                let r21 : MS := f_X7_goesOn u20 0
                (0, r21)
              else
                let u22 : MS := ms_v u19 (upd (mq_v u19) 15 0)
                let r23 : MS := f_X7_goesOn u22 0
                (0, r23)
            else
              if p2 = 6 then
                let t24 : Int32 := (t2 >>> ((1 : Int32) &&& 31))
                let u25 : MS := ms_v u (upd (mq_v u) (p0).toNatClampNeg (t24 &&& 255))
                let u26 : MS := ms_v u25 (upd (mq_v u25) 15 (t2 &&& 1))
                let r27 : MS := f_X7_goesOn u26 0
                (0, r27)
              else
                if p2 = 7 then
                  let t28 : Int32 := (t2 - t1)
                  let u29 : MS := ms_v u (upd (mq_v u) (p0).toNatClampNeg (t28 &&& 255))
                  if 0 ≤ t28 then
                    let u30 : MS := ms_v u29 (upd (mq_v u29) 15 1)
                    let r31 : MS := f_X7_goesOn u30 0
                    (0, r31)
                  else
                    let u32 : MS := ms_v u29 (upd (mq_v u29) 15 0)
                    let r33 : MS := f_X7_goesOn u32 0
                    (0, r33)
                else
                  let t34 : Int32 := (t2 <<< ((1 : Int32) &&& 31))
                  if p2 ≤ 7 then
                    let u35 : MS := ms_v u (upd (mq_v u) (p0).toNatClampNeg (t34 &&& 255))
                    if p2 = 14 then
                      let u36 : MS := ms_v u35 (upd (mq_v u35) 15 (t2 >>> ((7 : Int32) &&& 31)))
                      let r37 : MS := f_X7_goesOn u36 0
                      (0, r37)
                    else
                      let r38 : MS := f_X7_goesOn u35 0
                      (0, r38)
                  else
                    if p2 = 14 then
                      let u39 : MS := ms_v u (upd (mq_v u) (p0).toNatClampNeg (t34 &&& 255))
                      let u40 : MS := ms_v u39 (upd (mq_v u39) 15 (t2 >>> ((7 : Int32) &&& 31)))
                      let r41 : MS := f_X7_goesOn u40 0
                      (0, r41)
                    else
                      (1, u)
def ok_X7_eight (u : MS) (p0 : Int32) (p1 : Int32) (p2 : Int32) : Prop :=
  vp_in p0 22 ∧
  let t1 : Int32 := (mq_v u (p0).toNatClampNeg)
  vp_in p1 22 ∧
  let t2 : Int32 := (mq_v u (p1).toNatClampNeg)
  if p2 = 0 then
    vp_in p0 22 ∧
    let u3 : MS := ms_v u (upd (mq_v u) (p0).toNatClampNeg (t2 &&& 255))
    let r4 : MS := f_X7_goesOn u3 0
    True
  else
    if p2 = 1 then
      let t5 : Int32 := (t1 ||| t2)
      vp_in p0 22 ∧
      let u6 : MS := ms_v u (upd (mq_v u) (p0).toNatClampNeg (t5 &&& 255))
      let r7 : MS := f_X7_goesOn u6 0
      True
    else
      if p2 = 2 then
        let t8 : Int32 := (t1 &&& t2)
        vp_in p0 22 ∧
        let u9 : MS := ms_v u (upd (mq_v u) (p0).toNatClampNeg (t8 &&& 255))
        let r10 : MS := f_X7_goesOn u9 0
        True
      else
        if p2 = 3 then
          let t11 : Int32 := (t1 ^^^ t2)
          vp_in p0 22 ∧
          let u12 : MS := ms_v u (upd (mq_v u) (p0).toNatClampNeg (t11 &&& 255))
          let r13 : MS := f_X7_goesOn u12 0
          True
        else
          if p2 = 4 then
            let t14 : Int32 := (t1 + t2)
            vp_in p0 22 ∧
            let u15 : MS := ms_v u (upd (mq_v u) (p0).toNatClampNeg (t14 &&& 255))
            let u16 : MS := ms_v u15 (upd (mq_v u15) 15 (t14 >>> ((8 : Int32) &&& 31)))
            let r17 : MS := f_X7_goesOn u16 0
            True
          else
            if p2 = 5 then
              let t18 : Int32 := (t1 - t2)
              vp_in p0 22 ∧
              let u19 : MS := ms_v u (upd (mq_v u) (p0).toNatClampNeg (t18 &&& 255))
              if 0 ≤ t18 then
                let u20 : MS := ms_v u19 (upd (mq_v u19) 15 1)
                let r21 : MS := f_X7_goesOn u20 0
                True
              else
                let u22 : MS := ms_v u19 (upd (mq_v u19) 15 0)
                let r23 : MS := f_X7_goesOn u22 0
                True
            else
              if p2 = 6 then
                let t24 : Int32 := (t2 >>> ((1 : Int32) &&& 31))
                vp_in p0 22 ∧
                let u25 : MS := ms_v u (upd (mq_v u) (p0).toNatClampNeg (t24 &&& 255))
                let u26 : MS := ms_v u25 (upd (mq_v u25) 15 (t2 &&& 1))
                let r27 : MS := f_X7_goesOn u26 0
                True
              else
                if p2 = 7 then
                  let t28 : Int32 := (t2 - t1)
                  vp_in p0 22 ∧
                  let u29 : MS := ms_v u (upd (mq_v u) (p0).toNatClampNeg (t28 &&& 255))
                  if 0 ≤ t28 then
                    let u30 : MS := ms_v u29 (upd (mq_v u29) 15 1)
                    let r31 : MS := f_X7_goesOn u30 0
                    True
                  else
                    let u32 : MS := ms_v u29 (upd (mq_v u29) 15 0)
                    let r33 : MS := f_X7_goesOn u32 0
                    True
                else
                  let t34 : Int32 := (t2 <<< ((1 : Int32) &&& 31))
                  if p2 ≤ 7 then
                    vp_in p0 22 ∧
                    let u35 : MS := ms_v u (upd (mq_v u) (p0).toNatClampNeg (t34 &&& 255))
                    if p2 = 14 then
                      let u36 : MS := ms_v u35 (upd (mq_v u35) 15 (t2 >>> ((7 : Int32) &&& 31)))
                      let r37 : MS := f_X7_goesOn u36 0
                      True
                    else
                      let r38 : MS := f_X7_goesOn u35 0
                      True
                  else
                    if p2 = 14 then
                      vp_in p0 22 ∧
                      let u39 : MS := ms_v u (upd (mq_v u) (p0).toNatClampNeg (t34 &&& 255))
                      let u40 : MS := ms_v u39 (upd (mq_v u39) 15 (t2 >>> ((7 : Int32) &&& 31)))
                      let r41 : MS := f_X7_goesOn u40 0
                      True
                    else
                      True
set_option maxHeartbeats 4000000 in
set_option maxRecDepth 100000 in
theorem c_X7_eight (l : Launch) (dC : Nat → ClassId) (dI : Nat → Nat → Nat) (cI cZ : ClassId) (x : Nat → Nat) (hi : g_inj 7 x) (u : MS) (p0 : Int32) (p1 : Int32) (p2 : Int32) (hok : ok_X7_eight u p0 p1 p2) : g_Mi l yX7_eight (.code yX7_eight cX7_eight 7 (some .int)) { frames := 1, cells := 0, slots := 0, locals := 21 } (dC, dI) vwCl (tysW cI cZ) (wM x cI cZ) (g_bA 7 x) u [.ref (x 0), .int p0, .int p1, .int p2] (f_X7_eight u p0 p1 p2).1 (f_X7_eight u p0 p1 p2).2 := by
  refine Met.ofW (cc := cX7_eight) (maxL := 7) (ret := (some .int)) (by decide) rfl ?_
  intro p e s m args below meth c s₁ B hml hv
  obtain ⟨rfl, hP, hK⟩ := hv
  have hx := B.exec
  have hb := B.bytes
  have hr := B.returns
  have hts := atoms_spec (ws := .code yX7_eight cX7_eight 7 (some .int) :: gtbl) B.pre
  have hg : ∀ w ∈ gtbl, w.before _ s = true := fun w h => hts w (List.mem_cons_of_mem _ h)
  have hown : s.vm.findClass RX7 = some m.cls := findClass_of_methodNamed B.named
  have hlocks := B.notSynchronized
  have hS : va_S (g_bA 7 x) s.heap s.heap [] := va_S.rf
  have hl := lv_entry ([.ref (x 0), .int p0, .int p1, .int p2]) (n := 7) (Nat.le_of_ble_eq_true rfl)
  rw [lg_entry_eq]
  generalize (lg_sl ([.ref (x 0), .int p0, .int p1, .int p2]) ++ List.replicate (7 - (lg_sl ([.ref (x 0), .int p0, .int p1, .int p2])).length) Slot.unset).toArray = ls at hl ⊢
  have hl : lv_has ls 7 [(0, .ref (x 0)), (1, .int p0), (2, .int p1), (3, .int p2)] := hl
  obtain ⟨F, hF⟩ : ∃ F, f_X7_eight u p0 p1 p2 = F := ⟨_, rfl⟩
  rw [hF]
  refine lv_aload_n hx hb dX7_eight_0 rfl (lv_at hl 0 rfl) ?_
  refine ge_X7_v hx hb hg hown kf_X7_16 hK hP dX7_eight_1 ?_
  refine lv_iload_n hx hb dX7_eight_4 rfl (lv_at hl 1 rfl) ?_
  obtain ⟨c1, hok⟩ := hok
  refine ml_v hx hb hK hP c1 dX7_eight_5 ?_
  refine lv_istore hx hb dX7_eight_6 hl (by decide) rfl (fun ls hl => ?_)
  have hl : lv_has ls 7 [(4, _), (0, _), (1, _), (2, _), (3, _)] := hl
  refine lv_aload_n hx hb dX7_eight_8 rfl (lv_at hl 1 rfl) ?_
  refine ge_X7_v hx hb hg hown kf_X7_16 hK hP dX7_eight_9 ?_
  refine lv_iload_n hx hb dX7_eight_12 rfl (lv_at hl 3 rfl) ?_
  obtain ⟨c2, hok⟩ := hok
  refine ml_v hx hb hK hP c2 dX7_eight_13 ?_
  refine lv_istore hx hb dX7_eight_14 hl (by decide) rfl (fun ls hl => ?_)
  have hl : lv_has ls 7 [(5, _), (4, _), (0, _), (1, _), (2, _), (3, _)] := hl
  refine lv_iload_n hx hb dX7_eight_16 rfl (lv_at hl 5 rfl) ?_
  refine lv_if_ne (tgt := 25) hx hb dX7_eight_17 (by decide) (fun c3 => ?_) (fun c3 => ?_)
  · have hF := (if_neg c3).symm.trans hF
    have hok := Eq.mp (if_neg c3) hok
    refine lv_iload_n hx hb dX7_eight_25 rfl (lv_at hl 5 rfl) ?_
    refine lv_iconst (v := 1) hx hb dX7_eight_26 (by decide) ?_
    refine lv_icmp_ne (tgt := 38) hx hb dX7_eight_27 (by decide) (fun c11 => ?_) (fun c11 => ?_)
    · have hF := (if_neg c11).symm.trans hF
      have hok := Eq.mp (if_neg c11) hok
      refine lv_iload_n hx hb dX7_eight_38 rfl (lv_at hl 5 rfl) ?_
      refine lv_iconst (v := 2) hx hb dX7_eight_39 (by decide) ?_
      refine lv_icmp_ne (tgt := 51) hx hb dX7_eight_40 (by decide) (fun c19 => ?_) (fun c19 => ?_)
      · have hF := (if_neg c19).symm.trans hF
        have hok := Eq.mp (if_neg c19) hok
        refine lv_iload_n hx hb dX7_eight_51 rfl (lv_at hl 5 rfl) ?_
        refine lv_iconst (v := 3) hx hb dX7_eight_52 (by decide) ?_
        refine lv_icmp_ne (tgt := 64) hx hb dX7_eight_53 (by decide) (fun c27 => ?_) (fun c27 => ?_)
        · have hF := (if_neg c27).symm.trans hF
          have hok := Eq.mp (if_neg c27) hok
          refine lv_iload_n hx hb dX7_eight_64 rfl (lv_at hl 5 rfl) ?_
          refine lv_iconst (v := 4) hx hb dX7_eight_65 (by decide) ?_
          refine lv_icmp_ne (tgt := 77) hx hb dX7_eight_66 (by decide) (fun c35 => ?_) (fun c35 => ?_)
          · have hF := (if_neg c35).symm.trans hF
            have hok := Eq.mp (if_neg c35) hok
            refine lv_iload_n hx hb dX7_eight_77 rfl (lv_at hl 5 rfl) ?_
            refine lv_iconst (v := 5) hx hb dX7_eight_78 (by decide) ?_
            refine lv_icmp_ne (tgt := 90) hx hb dX7_eight_79 (by decide) (fun c43 => ?_) (fun c43 => ?_)
            · have hF := (if_neg c43).symm.trans hF
              have hok := Eq.mp (if_neg c43) hok
              refine lv_iload_n hx hb dX7_eight_90 rfl (lv_at hl 5 rfl) ?_
              refine lv_bipush (v := 6) hx hb dX7_eight_91 (by decide) ?_
              refine lv_icmp_ne (tgt := 103) hx hb dX7_eight_93 (by decide) (fun c53 => ?_) (fun c53 => ?_)
              · have hF := (if_neg c53).symm.trans hF
                have hok := Eq.mp (if_neg c53) hok
                refine lv_iload_n hx hb dX7_eight_103 rfl (lv_at hl 5 rfl) ?_
                refine lv_bipush (v := 7) hx hb dX7_eight_104 (by decide) ?_
                refine lv_icmp_ne (tgt := 117) hx hb dX7_eight_106 (by decide) (fun c61 => ?_) (fun c61 => ?_)
                · have hF := (if_neg c61).symm.trans hF
                  have hok := Eq.mp (if_neg c61) hok
                  refine lv_iload hx hb dX7_eight_117 (lv_at hl 0 rfl) ?_
                  refine lv_iconst (v := 1) hx hb dX7_eight_119 (by decide) ?_
                  refine lv_ishl hx hb dX7_eight_120 ?_
                  refine lv_istore hx hb dX7_eight_121 hl (by decide) rfl (fun ls hl => ?_)
                  have hl : lv_has ls 7 [(6, _), (5, _), (4, _), (0, _), (1, _), (2, _), (3, _)] := hl
                  refine lv_iload_n hx hb dX7_eight_123 rfl (lv_at hl 6 rfl) ?_
                  refine lv_bipush (v := 7) hx hb dX7_eight_124 (by decide) ?_
                  refine lv_icmp_le (tgt := 137) hx hb dX7_eight_126 (by decide) (fun c72 => ?_) (fun c72 => ?_)
                  · have hF := (if_pos c72).symm.trans hF
                    have hok := Eq.mp (if_pos c72) hok
                    refine lv_aload_n hx hb dX7_eight_137 rfl (lv_at hl 3 rfl) ?_
                    refine ge_X7_v hx hb hg hown kf_X7_16 hK hP dX7_eight_138 ?_
                    refine lv_iload_n hx hb dX7_eight_141 rfl (lv_at hl 4 rfl) ?_
                    refine lv_iload hx hb dX7_eight_142 (lv_at hl 0 rfl) ?_
                    refine lv_sipush (v := 255) hx hb dX7_eight_144 (by decide) ?_
                    refine lv_iand hx hb dX7_eight_147 ?_
                    obtain ⟨c73, hok⟩ := hok
                    refine ma_v hi hx hb hK hP hS c73 dX7_eight_148 (fun H locs hP hS => ?_)
                    refine lv_iload_n hx hb dX7_eight_149 rfl (lv_at hl 6 rfl) ?_
                    refine lv_iconst (v := 4) hx hb dX7_eight_150 (by decide) ?_
                    refine lv_icmp_ne (tgt := 166) hx hb dX7_eight_151 (by decide) (fun c74 => ?_) (fun c74 => ?_)
                    · refine lv_iload_n hx hb dX7_eight_166 rfl (lv_at hl 6 rfl) ?_
                      refine lv_iconst (v := 5) hx hb dX7_eight_167 (by decide) ?_
                      refine lv_icmp_eq (tgt := 177) hx hb dX7_eight_168 (by decide) (fun c75 => ?_) (fun c75 => ?_)
                      · exact absurd c75 c43
                      · refine lv_iload_n hx hb dX7_eight_171 rfl (lv_at hl 6 rfl) ?_
                        refine lv_bipush (v := 7) hx hb dX7_eight_172 (by decide) ?_
                        refine lv_icmp_ne (tgt := 194) hx hb dX7_eight_174 (by decide) (fun c76 => ?_) (fun c76 => ?_)
                        · refine lv_iload_n hx hb dX7_eight_194 rfl (lv_at hl 6 rfl) ?_
                          refine lv_bipush (v := 6) hx hb dX7_eight_195 (by decide) ?_
                          refine lv_icmp_ne (tgt := 211) hx hb dX7_eight_197 (by decide) (fun c77 => ?_) (fun c77 => ?_)
                          · refine lv_iload_n hx hb dX7_eight_211 rfl (lv_at hl 6 rfl) ?_
                            refine lv_bipush (v := 14) hx hb dX7_eight_212 (by decide) ?_
                            refine lv_icmp_ne (tgt := 229) hx hb dX7_eight_214 (by decide) (fun c78 => ?_) (fun c78 => ?_)
                            · have hF := (if_neg c78).symm.trans hF
                              have hok := Eq.mp (if_neg c78) hok
                              refine lv_aload_n hx hb dX7_eight_229 rfl (lv_at hl 3 rfl) ?_
                              refine lv_iconst (v := 0) hx hb dX7_eight_230 (by decide) ?_
                              refine g_Vv hx hb hml hown hg (c_X7_goesOn l dC dI cI cZ x hi _ _) cs_X7_154 rfl rfl ⟨Nat.le_of_ble_eq_true rfl, Nat.le_of_ble_eq_true rfl⟩ hK hP hS (q0 := 0) rfl rfl rfl hl.1 rfl (Nat.le_of_ble_eq_true rfl) dX7_eight_231 ⟨Nat.zero_le _, Nat.zero_le _⟩ (fun H locs hP hS => ?_)
                              refine lv_iconst (v := 0) hx hb dX7_eight_234 (by decide) ?_
                              have hF : (_, _) = F := hF
                              exact g_iret hx hb hr hlocks hP hS dX7_eight_235 (g_p1 hF) (g_p2 hF)
                            · have hF := (if_pos c78).symm.trans hF
                              have hok := Eq.mp (if_pos c78) hok
                              refine lv_aload_n hx hb dX7_eight_217 rfl (lv_at hl 3 rfl) ?_
                              refine ge_X7_v hx hb hg hown kf_X7_16 hK hP dX7_eight_218 ?_
                              refine lv_bipush (v := 15) hx hb dX7_eight_221 (by decide) ?_
                              refine lv_iload hx hb dX7_eight_223 (lv_at hl 1 rfl) ?_
                              refine lv_bipush (v := 7) hx hb dX7_eight_225 (by decide) ?_
                              refine lv_ishr hx hb dX7_eight_227 ?_
                              refine mac_v 15 (by decide) hi hx hb hK hP hS dX7_eight_228 (fun H locs hP hS => ?_)
                              refine lv_aload_n hx hb dX7_eight_229 rfl (lv_at hl 3 rfl) ?_
                              refine lv_iconst (v := 0) hx hb dX7_eight_230 (by decide) ?_
                              refine g_Vv hx hb hml hown hg (c_X7_goesOn l dC dI cI cZ x hi _ _) cs_X7_154 rfl rfl ⟨Nat.le_of_ble_eq_true rfl, Nat.le_of_ble_eq_true rfl⟩ hK hP hS (q0 := 0) rfl rfl rfl hl.1 rfl (Nat.le_of_ble_eq_true rfl) dX7_eight_231 ⟨Nat.zero_le _, Nat.zero_le _⟩ (fun H locs hP hS => ?_)
                              refine lv_iconst (v := 0) hx hb dX7_eight_234 (by decide) ?_
                              have hF : (_, _) = F := hF
                              exact g_iret hx hb hr hlocks hP hS dX7_eight_235 (g_p1 hF) (g_p2 hF)
                          · exact absurd c77 c53
                        · exact absurd c76 c61
                    · exact absurd c74 c35
                  · have hF := (if_neg c72).symm.trans hF
                    have hok := Eq.mp (if_neg c72) hok
                    refine lv_iload_n hx hb dX7_eight_129 rfl (lv_at hl 6 rfl) ?_
                    refine lv_bipush (v := 14) hx hb dX7_eight_130 (by decide) ?_
                    refine lv_icmp_eq (tgt := 137) hx hb dX7_eight_132 (by decide) (fun c79 => ?_) (fun c79 => ?_)
                    · have hF := (if_pos c79).symm.trans hF
                      have hok := Eq.mp (if_pos c79) hok
                      refine lv_aload_n hx hb dX7_eight_137 rfl (lv_at hl 3 rfl) ?_
                      refine ge_X7_v hx hb hg hown kf_X7_16 hK hP dX7_eight_138 ?_
                      refine lv_iload_n hx hb dX7_eight_141 rfl (lv_at hl 4 rfl) ?_
                      refine lv_iload hx hb dX7_eight_142 (lv_at hl 0 rfl) ?_
                      refine lv_sipush (v := 255) hx hb dX7_eight_144 (by decide) ?_
                      refine lv_iand hx hb dX7_eight_147 ?_
                      obtain ⟨c80, hok⟩ := hok
                      refine ma_v hi hx hb hK hP hS c80 dX7_eight_148 (fun H locs hP hS => ?_)
                      refine lv_iload_n hx hb dX7_eight_149 rfl (lv_at hl 6 rfl) ?_
                      refine lv_iconst (v := 4) hx hb dX7_eight_150 (by decide) ?_
                      refine lv_icmp_ne (tgt := 166) hx hb dX7_eight_151 (by decide) (fun c81 => ?_) (fun c81 => ?_)
                      · refine lv_iload_n hx hb dX7_eight_166 rfl (lv_at hl 6 rfl) ?_
                        refine lv_iconst (v := 5) hx hb dX7_eight_167 (by decide) ?_
                        refine lv_icmp_eq (tgt := 177) hx hb dX7_eight_168 (by decide) (fun c82 => ?_) (fun c82 => ?_)
                        · exact absurd c82 (by rw [c79]; decide)
                        · refine lv_iload_n hx hb dX7_eight_171 rfl (lv_at hl 6 rfl) ?_
                          refine lv_bipush (v := 7) hx hb dX7_eight_172 (by decide) ?_
                          refine lv_icmp_ne (tgt := 194) hx hb dX7_eight_174 (by decide) (fun c83 => ?_) (fun c83 => ?_)
                          · refine lv_iload_n hx hb dX7_eight_194 rfl (lv_at hl 6 rfl) ?_
                            refine lv_bipush (v := 6) hx hb dX7_eight_195 (by decide) ?_
                            refine lv_icmp_ne (tgt := 211) hx hb dX7_eight_197 (by decide) (fun c84 => ?_) (fun c84 => ?_)
                            · refine lv_iload_n hx hb dX7_eight_211 rfl (lv_at hl 6 rfl) ?_
                              refine lv_bipush (v := 14) hx hb dX7_eight_212 (by decide) ?_
                              refine lv_icmp_ne (tgt := 229) hx hb dX7_eight_214 (by decide) (fun c85 => ?_) (fun c85 => ?_)
                              · exact absurd c85 (by rw [c79]; decide)
                              · refine lv_aload_n hx hb dX7_eight_217 rfl (lv_at hl 3 rfl) ?_
                                refine ge_X7_v hx hb hg hown kf_X7_16 hK hP dX7_eight_218 ?_
                                refine lv_bipush (v := 15) hx hb dX7_eight_221 (by decide) ?_
                                refine lv_iload hx hb dX7_eight_223 (lv_at hl 1 rfl) ?_
                                refine lv_bipush (v := 7) hx hb dX7_eight_225 (by decide) ?_
                                refine lv_ishr hx hb dX7_eight_227 ?_
                                refine mac_v 15 (by decide) hi hx hb hK hP hS dX7_eight_228 (fun H locs hP hS => ?_)
                                refine lv_aload_n hx hb dX7_eight_229 rfl (lv_at hl 3 rfl) ?_
                                refine lv_iconst (v := 0) hx hb dX7_eight_230 (by decide) ?_
                                refine g_Vv hx hb hml hown hg (c_X7_goesOn l dC dI cI cZ x hi _ _) cs_X7_154 rfl rfl ⟨Nat.le_of_ble_eq_true rfl, Nat.le_of_ble_eq_true rfl⟩ hK hP hS (q0 := 0) rfl rfl rfl hl.1 rfl (Nat.le_of_ble_eq_true rfl) dX7_eight_231 ⟨Nat.zero_le _, Nat.zero_le _⟩ (fun H locs hP hS => ?_)
                                refine lv_iconst (v := 0) hx hb dX7_eight_234 (by decide) ?_
                                have hF : (_, _) = F := hF
                                exact g_iret hx hb hr hlocks hP hS dX7_eight_235 (g_p1 hF) (g_p2 hF)
                            · exact absurd c84 (by rw [c79]; decide)
                          · exact absurd c83 (by rw [c79]; decide)
                      · exact absurd c81 (by rw [c79]; decide)
                    · have hF := (if_neg c79).symm.trans hF
                      have hok := Eq.mp (if_neg c79) hok
                      refine lv_iconst (v := 1) hx hb dX7_eight_135 (by decide) ?_
                      have hF : (_, _) = F := hF
                      exact g_iret hx hb hr hlocks hP hS dX7_eight_136 (g_p1 hF) (g_p2 hF)
                · have hF := (if_pos c61).symm.trans hF
                  have hok := Eq.mp (if_pos c61) hok
                  refine lv_iload hx hb dX7_eight_109 (lv_at hl 0 rfl) ?_
                  refine lv_iload hx hb dX7_eight_111 (lv_at hl 1 rfl) ?_
                  refine lv_isub hx hb dX7_eight_113 ?_
                  refine lv_goto (tgt := 121) hx hb dX7_eight_114 (by decide) ?_
                  refine lv_istore hx hb dX7_eight_121 hl (by decide) rfl (fun ls hl => ?_)
                  have hl : lv_has ls 7 [(6, _), (5, _), (4, _), (0, _), (1, _), (2, _), (3, _)] := hl
                  refine lv_iload_n hx hb dX7_eight_123 rfl (lv_at hl 6 rfl) ?_
                  refine lv_bipush (v := 7) hx hb dX7_eight_124 (by decide) ?_
                  refine lv_icmp_le (tgt := 137) hx hb dX7_eight_126 (by decide) (fun c62 => ?_) (fun c62 => ?_)
                  · refine lv_aload_n hx hb dX7_eight_137 rfl (lv_at hl 3 rfl) ?_
                    refine ge_X7_v hx hb hg hown kf_X7_16 hK hP dX7_eight_138 ?_
                    refine lv_iload_n hx hb dX7_eight_141 rfl (lv_at hl 4 rfl) ?_
                    refine lv_iload hx hb dX7_eight_142 (lv_at hl 0 rfl) ?_
                    refine lv_sipush (v := 255) hx hb dX7_eight_144 (by decide) ?_
                    refine lv_iand hx hb dX7_eight_147 ?_
                    obtain ⟨c63, hok⟩ := hok
                    refine ma_v hi hx hb hK hP hS c63 dX7_eight_148 (fun H locs hP hS => ?_)
                    refine lv_iload_n hx hb dX7_eight_149 rfl (lv_at hl 6 rfl) ?_
                    refine lv_iconst (v := 4) hx hb dX7_eight_150 (by decide) ?_
                    refine lv_icmp_ne (tgt := 166) hx hb dX7_eight_151 (by decide) (fun c64 => ?_) (fun c64 => ?_)
                    · refine lv_iload_n hx hb dX7_eight_166 rfl (lv_at hl 6 rfl) ?_
                      refine lv_iconst (v := 5) hx hb dX7_eight_167 (by decide) ?_
                      refine lv_icmp_eq (tgt := 177) hx hb dX7_eight_168 (by decide) (fun c65 => ?_) (fun c65 => ?_)
                      · exact absurd c65 (by rw [c61]; decide)
                      · refine lv_iload_n hx hb dX7_eight_171 rfl (lv_at hl 6 rfl) ?_
                        refine lv_bipush (v := 7) hx hb dX7_eight_172 (by decide) ?_
                        refine lv_icmp_ne (tgt := 194) hx hb dX7_eight_174 (by decide) (fun c66 => ?_) (fun c66 => ?_)
                        · exact absurd c66 (by rw [c61]; decide)
                        · refine lv_aload_n hx hb dX7_eight_177 rfl (lv_at hl 3 rfl) ?_
                          refine ge_X7_v hx hb hg hown kf_X7_16 hK hP dX7_eight_178 ?_
                          refine lv_bipush (v := 15) hx hb dX7_eight_181 (by decide) ?_
                          refine lv_iload hx hb dX7_eight_183 (lv_at hl 0 rfl) ?_
                          refine lv_if_ge (tgt := 192) hx hb dX7_eight_185 (by decide) (fun c67 => ?_) (fun c67 => ?_)
                          · have hF := (if_pos c67).symm.trans hF
                            have hok := Eq.mp (if_pos c67) hok
                            refine lv_iconst (v := 1) hx hb dX7_eight_192 (by decide) ?_
                            refine mac_v 15 (by decide) hi hx hb hK hP hS dX7_eight_193 (fun H locs hP hS => ?_)
                            refine lv_iload_n hx hb dX7_eight_194 rfl (lv_at hl 6 rfl) ?_
                            refine lv_bipush (v := 6) hx hb dX7_eight_195 (by decide) ?_
                            refine lv_icmp_ne (tgt := 211) hx hb dX7_eight_197 (by decide) (fun c68 => ?_) (fun c68 => ?_)
                            · refine lv_iload_n hx hb dX7_eight_211 rfl (lv_at hl 6 rfl) ?_
                              refine lv_bipush (v := 14) hx hb dX7_eight_212 (by decide) ?_
                              refine lv_icmp_ne (tgt := 229) hx hb dX7_eight_214 (by decide) (fun c69 => ?_) (fun c69 => ?_)
                              · refine lv_aload_n hx hb dX7_eight_229 rfl (lv_at hl 3 rfl) ?_
                                refine lv_iconst (v := 0) hx hb dX7_eight_230 (by decide) ?_
                                refine g_Vv hx hb hml hown hg (c_X7_goesOn l dC dI cI cZ x hi _ _) cs_X7_154 rfl rfl ⟨Nat.le_of_ble_eq_true rfl, Nat.le_of_ble_eq_true rfl⟩ hK hP hS (q0 := 0) rfl rfl rfl hl.1 rfl (Nat.le_of_ble_eq_true rfl) dX7_eight_231 ⟨Nat.zero_le _, Nat.zero_le _⟩ (fun H locs hP hS => ?_)
                                refine lv_iconst (v := 0) hx hb dX7_eight_234 (by decide) ?_
                                have hF : (_, _) = F := hF
                                exact g_iret hx hb hr hlocks hP hS dX7_eight_235 (g_p1 hF) (g_p2 hF)
                              · exact absurd c69 (by rw [c61]; decide)
                            · exact absurd c68 (by rw [c61]; decide)
                          · have hF := (if_neg c67).symm.trans hF
                            have hok := Eq.mp (if_neg c67) hok
                            refine lv_iconst (v := 0) hx hb dX7_eight_188 (by decide) ?_
                            refine lv_goto (tgt := 193) hx hb dX7_eight_189 (by decide) ?_
                            refine mac_v 15 (by decide) hi hx hb hK hP hS dX7_eight_193 (fun H locs hP hS => ?_)
                            refine lv_iload_n hx hb dX7_eight_194 rfl (lv_at hl 6 rfl) ?_
                            refine lv_bipush (v := 6) hx hb dX7_eight_195 (by decide) ?_
                            refine lv_icmp_ne (tgt := 211) hx hb dX7_eight_197 (by decide) (fun c70 => ?_) (fun c70 => ?_)
                            · refine lv_iload_n hx hb dX7_eight_211 rfl (lv_at hl 6 rfl) ?_
                              refine lv_bipush (v := 14) hx hb dX7_eight_212 (by decide) ?_
                              refine lv_icmp_ne (tgt := 229) hx hb dX7_eight_214 (by decide) (fun c71 => ?_) (fun c71 => ?_)
                              · refine lv_aload_n hx hb dX7_eight_229 rfl (lv_at hl 3 rfl) ?_
                                refine lv_iconst (v := 0) hx hb dX7_eight_230 (by decide) ?_
                                refine g_Vv hx hb hml hown hg (c_X7_goesOn l dC dI cI cZ x hi _ _) cs_X7_154 rfl rfl ⟨Nat.le_of_ble_eq_true rfl, Nat.le_of_ble_eq_true rfl⟩ hK hP hS (q0 := 0) rfl rfl rfl hl.1 rfl (Nat.le_of_ble_eq_true rfl) dX7_eight_231 ⟨Nat.zero_le _, Nat.zero_le _⟩ (fun H locs hP hS => ?_)
                                refine lv_iconst (v := 0) hx hb dX7_eight_234 (by decide) ?_
                                have hF : (_, _) = F := hF
                                exact g_iret hx hb hr hlocks hP hS dX7_eight_235 (g_p1 hF) (g_p2 hF)
                              · exact absurd c71 (by rw [c61]; decide)
                            · exact absurd c70 (by rw [c61]; decide)
                    · exact absurd c64 (by rw [c61]; decide)
                  · exact absurd c62 (by rw [c61]; decide)
              · have hF := (if_pos c53).symm.trans hF
                have hok := Eq.mp (if_pos c53) hok
                refine lv_iload hx hb dX7_eight_96 (lv_at hl 0 rfl) ?_
                refine lv_iconst (v := 1) hx hb dX7_eight_98 (by decide) ?_
                refine lv_ishr hx hb dX7_eight_99 ?_
                refine lv_goto (tgt := 121) hx hb dX7_eight_100 (by decide) ?_
                refine lv_istore hx hb dX7_eight_121 hl (by decide) rfl (fun ls hl => ?_)
                have hl : lv_has ls 7 [(6, _), (5, _), (4, _), (0, _), (1, _), (2, _), (3, _)] := hl
                refine lv_iload_n hx hb dX7_eight_123 rfl (lv_at hl 6 rfl) ?_
                refine lv_bipush (v := 7) hx hb dX7_eight_124 (by decide) ?_
                refine lv_icmp_le (tgt := 137) hx hb dX7_eight_126 (by decide) (fun c54 => ?_) (fun c54 => ?_)
                · refine lv_aload_n hx hb dX7_eight_137 rfl (lv_at hl 3 rfl) ?_
                  refine ge_X7_v hx hb hg hown kf_X7_16 hK hP dX7_eight_138 ?_
                  refine lv_iload_n hx hb dX7_eight_141 rfl (lv_at hl 4 rfl) ?_
                  refine lv_iload hx hb dX7_eight_142 (lv_at hl 0 rfl) ?_
                  refine lv_sipush (v := 255) hx hb dX7_eight_144 (by decide) ?_
                  refine lv_iand hx hb dX7_eight_147 ?_
                  obtain ⟨c55, hok⟩ := hok
                  refine ma_v hi hx hb hK hP hS c55 dX7_eight_148 (fun H locs hP hS => ?_)
                  refine lv_iload_n hx hb dX7_eight_149 rfl (lv_at hl 6 rfl) ?_
                  refine lv_iconst (v := 4) hx hb dX7_eight_150 (by decide) ?_
                  refine lv_icmp_ne (tgt := 166) hx hb dX7_eight_151 (by decide) (fun c56 => ?_) (fun c56 => ?_)
                  · refine lv_iload_n hx hb dX7_eight_166 rfl (lv_at hl 6 rfl) ?_
                    refine lv_iconst (v := 5) hx hb dX7_eight_167 (by decide) ?_
                    refine lv_icmp_eq (tgt := 177) hx hb dX7_eight_168 (by decide) (fun c57 => ?_) (fun c57 => ?_)
                    · exact absurd c57 (by rw [c53]; decide)
                    · refine lv_iload_n hx hb dX7_eight_171 rfl (lv_at hl 6 rfl) ?_
                      refine lv_bipush (v := 7) hx hb dX7_eight_172 (by decide) ?_
                      refine lv_icmp_ne (tgt := 194) hx hb dX7_eight_174 (by decide) (fun c58 => ?_) (fun c58 => ?_)
                      · refine lv_iload_n hx hb dX7_eight_194 rfl (lv_at hl 6 rfl) ?_
                        refine lv_bipush (v := 6) hx hb dX7_eight_195 (by decide) ?_
                        refine lv_icmp_ne (tgt := 211) hx hb dX7_eight_197 (by decide) (fun c59 => ?_) (fun c59 => ?_)
                        · exact absurd c59 (by rw [c53]; decide)
                        · refine lv_aload_n hx hb dX7_eight_200 rfl (lv_at hl 3 rfl) ?_
                          refine ge_X7_v hx hb hg hown kf_X7_16 hK hP dX7_eight_201 ?_
                          refine lv_bipush (v := 15) hx hb dX7_eight_204 (by decide) ?_
                          refine lv_iload hx hb dX7_eight_206 (lv_at hl 1 rfl) ?_
                          refine lv_iconst (v := 1) hx hb dX7_eight_208 (by decide) ?_
                          refine lv_iand hx hb dX7_eight_209 ?_
                          refine mac_v 15 (by decide) hi hx hb hK hP hS dX7_eight_210 (fun H locs hP hS => ?_)
                          refine lv_iload_n hx hb dX7_eight_211 rfl (lv_at hl 6 rfl) ?_
                          refine lv_bipush (v := 14) hx hb dX7_eight_212 (by decide) ?_
                          refine lv_icmp_ne (tgt := 229) hx hb dX7_eight_214 (by decide) (fun c60 => ?_) (fun c60 => ?_)
                          · refine lv_aload_n hx hb dX7_eight_229 rfl (lv_at hl 3 rfl) ?_
                            refine lv_iconst (v := 0) hx hb dX7_eight_230 (by decide) ?_
                            refine g_Vv hx hb hml hown hg (c_X7_goesOn l dC dI cI cZ x hi _ _) cs_X7_154 rfl rfl ⟨Nat.le_of_ble_eq_true rfl, Nat.le_of_ble_eq_true rfl⟩ hK hP hS (q0 := 0) rfl rfl rfl hl.1 rfl (Nat.le_of_ble_eq_true rfl) dX7_eight_231 ⟨Nat.zero_le _, Nat.zero_le _⟩ (fun H locs hP hS => ?_)
                            refine lv_iconst (v := 0) hx hb dX7_eight_234 (by decide) ?_
                            have hF : (_, _) = F := hF
                            exact g_iret hx hb hr hlocks hP hS dX7_eight_235 (g_p1 hF) (g_p2 hF)
                          · exact absurd c60 (by rw [c53]; decide)
                      · exact absurd c58 (by rw [c53]; decide)
                  · exact absurd c56 (by rw [c53]; decide)
                · exact absurd c54 (by rw [c53]; decide)
            · have hF := (if_pos c43).symm.trans hF
              have hok := Eq.mp (if_pos c43) hok
              refine lv_iload hx hb dX7_eight_82 (lv_at hl 1 rfl) ?_
              refine lv_iload hx hb dX7_eight_84 (lv_at hl 0 rfl) ?_
              refine lv_isub hx hb dX7_eight_86 ?_
              refine lv_goto (tgt := 121) hx hb dX7_eight_87 (by decide) ?_
              refine lv_istore hx hb dX7_eight_121 hl (by decide) rfl (fun ls hl => ?_)
              have hl : lv_has ls 7 [(6, _), (5, _), (4, _), (0, _), (1, _), (2, _), (3, _)] := hl
              refine lv_iload_n hx hb dX7_eight_123 rfl (lv_at hl 6 rfl) ?_
              refine lv_bipush (v := 7) hx hb dX7_eight_124 (by decide) ?_
              refine lv_icmp_le (tgt := 137) hx hb dX7_eight_126 (by decide) (fun c44 => ?_) (fun c44 => ?_)
              · refine lv_aload_n hx hb dX7_eight_137 rfl (lv_at hl 3 rfl) ?_
                refine ge_X7_v hx hb hg hown kf_X7_16 hK hP dX7_eight_138 ?_
                refine lv_iload_n hx hb dX7_eight_141 rfl (lv_at hl 4 rfl) ?_
                refine lv_iload hx hb dX7_eight_142 (lv_at hl 0 rfl) ?_
                refine lv_sipush (v := 255) hx hb dX7_eight_144 (by decide) ?_
                refine lv_iand hx hb dX7_eight_147 ?_
                obtain ⟨c45, hok⟩ := hok
                refine ma_v hi hx hb hK hP hS c45 dX7_eight_148 (fun H locs hP hS => ?_)
                refine lv_iload_n hx hb dX7_eight_149 rfl (lv_at hl 6 rfl) ?_
                refine lv_iconst (v := 4) hx hb dX7_eight_150 (by decide) ?_
                refine lv_icmp_ne (tgt := 166) hx hb dX7_eight_151 (by decide) (fun c46 => ?_) (fun c46 => ?_)
                · refine lv_iload_n hx hb dX7_eight_166 rfl (lv_at hl 6 rfl) ?_
                  refine lv_iconst (v := 5) hx hb dX7_eight_167 (by decide) ?_
                  refine lv_icmp_eq (tgt := 177) hx hb dX7_eight_168 (by decide) (fun c47 => ?_) (fun c47 => ?_)
                  · refine lv_aload_n hx hb dX7_eight_177 rfl (lv_at hl 3 rfl) ?_
                    refine ge_X7_v hx hb hg hown kf_X7_16 hK hP dX7_eight_178 ?_
                    refine lv_bipush (v := 15) hx hb dX7_eight_181 (by decide) ?_
                    refine lv_iload hx hb dX7_eight_183 (lv_at hl 0 rfl) ?_
                    refine lv_if_ge (tgt := 192) hx hb dX7_eight_185 (by decide) (fun c48 => ?_) (fun c48 => ?_)
                    · have hF := (if_pos c48).symm.trans hF
                      have hok := Eq.mp (if_pos c48) hok
                      refine lv_iconst (v := 1) hx hb dX7_eight_192 (by decide) ?_
                      refine mac_v 15 (by decide) hi hx hb hK hP hS dX7_eight_193 (fun H locs hP hS => ?_)
                      refine lv_iload_n hx hb dX7_eight_194 rfl (lv_at hl 6 rfl) ?_
                      refine lv_bipush (v := 6) hx hb dX7_eight_195 (by decide) ?_
                      refine lv_icmp_ne (tgt := 211) hx hb dX7_eight_197 (by decide) (fun c49 => ?_) (fun c49 => ?_)
                      · refine lv_iload_n hx hb dX7_eight_211 rfl (lv_at hl 6 rfl) ?_
                        refine lv_bipush (v := 14) hx hb dX7_eight_212 (by decide) ?_
                        refine lv_icmp_ne (tgt := 229) hx hb dX7_eight_214 (by decide) (fun c50 => ?_) (fun c50 => ?_)
                        · refine lv_aload_n hx hb dX7_eight_229 rfl (lv_at hl 3 rfl) ?_
                          refine lv_iconst (v := 0) hx hb dX7_eight_230 (by decide) ?_
                          refine g_Vv hx hb hml hown hg (c_X7_goesOn l dC dI cI cZ x hi _ _) cs_X7_154 rfl rfl ⟨Nat.le_of_ble_eq_true rfl, Nat.le_of_ble_eq_true rfl⟩ hK hP hS (q0 := 0) rfl rfl rfl hl.1 rfl (Nat.le_of_ble_eq_true rfl) dX7_eight_231 ⟨Nat.zero_le _, Nat.zero_le _⟩ (fun H locs hP hS => ?_)
                          refine lv_iconst (v := 0) hx hb dX7_eight_234 (by decide) ?_
                          have hF : (_, _) = F := hF
                          exact g_iret hx hb hr hlocks hP hS dX7_eight_235 (g_p1 hF) (g_p2 hF)
                        · exact absurd c50 (by rw [c43]; decide)
                      · exact absurd c49 (by rw [c43]; decide)
                    · have hF := (if_neg c48).symm.trans hF
                      have hok := Eq.mp (if_neg c48) hok
                      refine lv_iconst (v := 0) hx hb dX7_eight_188 (by decide) ?_
                      refine lv_goto (tgt := 193) hx hb dX7_eight_189 (by decide) ?_
                      refine mac_v 15 (by decide) hi hx hb hK hP hS dX7_eight_193 (fun H locs hP hS => ?_)
                      refine lv_iload_n hx hb dX7_eight_194 rfl (lv_at hl 6 rfl) ?_
                      refine lv_bipush (v := 6) hx hb dX7_eight_195 (by decide) ?_
                      refine lv_icmp_ne (tgt := 211) hx hb dX7_eight_197 (by decide) (fun c51 => ?_) (fun c51 => ?_)
                      · refine lv_iload_n hx hb dX7_eight_211 rfl (lv_at hl 6 rfl) ?_
                        refine lv_bipush (v := 14) hx hb dX7_eight_212 (by decide) ?_
                        refine lv_icmp_ne (tgt := 229) hx hb dX7_eight_214 (by decide) (fun c52 => ?_) (fun c52 => ?_)
                        · refine lv_aload_n hx hb dX7_eight_229 rfl (lv_at hl 3 rfl) ?_
                          refine lv_iconst (v := 0) hx hb dX7_eight_230 (by decide) ?_
                          refine g_Vv hx hb hml hown hg (c_X7_goesOn l dC dI cI cZ x hi _ _) cs_X7_154 rfl rfl ⟨Nat.le_of_ble_eq_true rfl, Nat.le_of_ble_eq_true rfl⟩ hK hP hS (q0 := 0) rfl rfl rfl hl.1 rfl (Nat.le_of_ble_eq_true rfl) dX7_eight_231 ⟨Nat.zero_le _, Nat.zero_le _⟩ (fun H locs hP hS => ?_)
                          refine lv_iconst (v := 0) hx hb dX7_eight_234 (by decide) ?_
                          have hF : (_, _) = F := hF
                          exact g_iret hx hb hr hlocks hP hS dX7_eight_235 (g_p1 hF) (g_p2 hF)
                        · exact absurd c52 (by rw [c43]; decide)
                      · exact absurd c51 (by rw [c43]; decide)
                  · exact absurd c47 (by rw [c43]; decide)
                · exact absurd c46 (by rw [c43]; decide)
              · exact absurd c44 (by rw [c43]; decide)
          · have hF := (if_pos c35).symm.trans hF
            have hok := Eq.mp (if_pos c35) hok
            refine lv_iload hx hb dX7_eight_69 (lv_at hl 1 rfl) ?_
            refine lv_iload hx hb dX7_eight_71 (lv_at hl 0 rfl) ?_
            refine lv_iadd hx hb dX7_eight_73 ?_
            refine lv_goto (tgt := 121) hx hb dX7_eight_74 (by decide) ?_
            refine lv_istore hx hb dX7_eight_121 hl (by decide) rfl (fun ls hl => ?_)
            have hl : lv_has ls 7 [(6, _), (5, _), (4, _), (0, _), (1, _), (2, _), (3, _)] := hl
            refine lv_iload_n hx hb dX7_eight_123 rfl (lv_at hl 6 rfl) ?_
            refine lv_bipush (v := 7) hx hb dX7_eight_124 (by decide) ?_
            refine lv_icmp_le (tgt := 137) hx hb dX7_eight_126 (by decide) (fun c36 => ?_) (fun c36 => ?_)
            · refine lv_aload_n hx hb dX7_eight_137 rfl (lv_at hl 3 rfl) ?_
              refine ge_X7_v hx hb hg hown kf_X7_16 hK hP dX7_eight_138 ?_
              refine lv_iload_n hx hb dX7_eight_141 rfl (lv_at hl 4 rfl) ?_
              refine lv_iload hx hb dX7_eight_142 (lv_at hl 0 rfl) ?_
              refine lv_sipush (v := 255) hx hb dX7_eight_144 (by decide) ?_
              refine lv_iand hx hb dX7_eight_147 ?_
              obtain ⟨c37, hok⟩ := hok
              refine ma_v hi hx hb hK hP hS c37 dX7_eight_148 (fun H locs hP hS => ?_)
              refine lv_iload_n hx hb dX7_eight_149 rfl (lv_at hl 6 rfl) ?_
              refine lv_iconst (v := 4) hx hb dX7_eight_150 (by decide) ?_
              refine lv_icmp_ne (tgt := 166) hx hb dX7_eight_151 (by decide) (fun c38 => ?_) (fun c38 => ?_)
              · exact absurd c38 (by rw [c35]; decide)
              · refine lv_aload_n hx hb dX7_eight_154 rfl (lv_at hl 3 rfl) ?_
                refine ge_X7_v hx hb hg hown kf_X7_16 hK hP dX7_eight_155 ?_
                refine lv_bipush (v := 15) hx hb dX7_eight_158 (by decide) ?_
                refine lv_iload hx hb dX7_eight_160 (lv_at hl 0 rfl) ?_
                refine lv_bipush (v := 8) hx hb dX7_eight_162 (by decide) ?_
                refine lv_ishr hx hb dX7_eight_164 ?_
                refine mac_v 15 (by decide) hi hx hb hK hP hS dX7_eight_165 (fun H locs hP hS => ?_)
                refine lv_iload_n hx hb dX7_eight_166 rfl (lv_at hl 6 rfl) ?_
                refine lv_iconst (v := 5) hx hb dX7_eight_167 (by decide) ?_
                refine lv_icmp_eq (tgt := 177) hx hb dX7_eight_168 (by decide) (fun c39 => ?_) (fun c39 => ?_)
                · exact absurd c39 (by rw [c35]; decide)
                · refine lv_iload_n hx hb dX7_eight_171 rfl (lv_at hl 6 rfl) ?_
                  refine lv_bipush (v := 7) hx hb dX7_eight_172 (by decide) ?_
                  refine lv_icmp_ne (tgt := 194) hx hb dX7_eight_174 (by decide) (fun c40 => ?_) (fun c40 => ?_)
                  · refine lv_iload_n hx hb dX7_eight_194 rfl (lv_at hl 6 rfl) ?_
                    refine lv_bipush (v := 6) hx hb dX7_eight_195 (by decide) ?_
                    refine lv_icmp_ne (tgt := 211) hx hb dX7_eight_197 (by decide) (fun c41 => ?_) (fun c41 => ?_)
                    · refine lv_iload_n hx hb dX7_eight_211 rfl (lv_at hl 6 rfl) ?_
                      refine lv_bipush (v := 14) hx hb dX7_eight_212 (by decide) ?_
                      refine lv_icmp_ne (tgt := 229) hx hb dX7_eight_214 (by decide) (fun c42 => ?_) (fun c42 => ?_)
                      · refine lv_aload_n hx hb dX7_eight_229 rfl (lv_at hl 3 rfl) ?_
                        refine lv_iconst (v := 0) hx hb dX7_eight_230 (by decide) ?_
                        refine g_Vv hx hb hml hown hg (c_X7_goesOn l dC dI cI cZ x hi _ _) cs_X7_154 rfl rfl ⟨Nat.le_of_ble_eq_true rfl, Nat.le_of_ble_eq_true rfl⟩ hK hP hS (q0 := 0) rfl rfl rfl hl.1 rfl (Nat.le_of_ble_eq_true rfl) dX7_eight_231 ⟨Nat.zero_le _, Nat.zero_le _⟩ (fun H locs hP hS => ?_)
                        refine lv_iconst (v := 0) hx hb dX7_eight_234 (by decide) ?_
                        have hF : (_, _) = F := hF
                        exact g_iret hx hb hr hlocks hP hS dX7_eight_235 (g_p1 hF) (g_p2 hF)
                      · exact absurd c42 (by rw [c35]; decide)
                    · exact absurd c41 (by rw [c35]; decide)
                  · exact absurd c40 (by rw [c35]; decide)
            · exact absurd c36 (by rw [c35]; decide)
        · have hF := (if_pos c27).symm.trans hF
          have hok := Eq.mp (if_pos c27) hok
          refine lv_iload hx hb dX7_eight_56 (lv_at hl 1 rfl) ?_
          refine lv_iload hx hb dX7_eight_58 (lv_at hl 0 rfl) ?_
          refine lv_ixor hx hb dX7_eight_60 ?_
          refine lv_goto (tgt := 121) hx hb dX7_eight_61 (by decide) ?_
          refine lv_istore hx hb dX7_eight_121 hl (by decide) rfl (fun ls hl => ?_)
          have hl : lv_has ls 7 [(6, _), (5, _), (4, _), (0, _), (1, _), (2, _), (3, _)] := hl
          refine lv_iload_n hx hb dX7_eight_123 rfl (lv_at hl 6 rfl) ?_
          refine lv_bipush (v := 7) hx hb dX7_eight_124 (by decide) ?_
          refine lv_icmp_le (tgt := 137) hx hb dX7_eight_126 (by decide) (fun c28 => ?_) (fun c28 => ?_)
          · refine lv_aload_n hx hb dX7_eight_137 rfl (lv_at hl 3 rfl) ?_
            refine ge_X7_v hx hb hg hown kf_X7_16 hK hP dX7_eight_138 ?_
            refine lv_iload_n hx hb dX7_eight_141 rfl (lv_at hl 4 rfl) ?_
            refine lv_iload hx hb dX7_eight_142 (lv_at hl 0 rfl) ?_
            refine lv_sipush (v := 255) hx hb dX7_eight_144 (by decide) ?_
            refine lv_iand hx hb dX7_eight_147 ?_
            obtain ⟨c29, hok⟩ := hok
            refine ma_v hi hx hb hK hP hS c29 dX7_eight_148 (fun H locs hP hS => ?_)
            refine lv_iload_n hx hb dX7_eight_149 rfl (lv_at hl 6 rfl) ?_
            refine lv_iconst (v := 4) hx hb dX7_eight_150 (by decide) ?_
            refine lv_icmp_ne (tgt := 166) hx hb dX7_eight_151 (by decide) (fun c30 => ?_) (fun c30 => ?_)
            · refine lv_iload_n hx hb dX7_eight_166 rfl (lv_at hl 6 rfl) ?_
              refine lv_iconst (v := 5) hx hb dX7_eight_167 (by decide) ?_
              refine lv_icmp_eq (tgt := 177) hx hb dX7_eight_168 (by decide) (fun c31 => ?_) (fun c31 => ?_)
              · exact absurd c31 (by rw [c27]; decide)
              · refine lv_iload_n hx hb dX7_eight_171 rfl (lv_at hl 6 rfl) ?_
                refine lv_bipush (v := 7) hx hb dX7_eight_172 (by decide) ?_
                refine lv_icmp_ne (tgt := 194) hx hb dX7_eight_174 (by decide) (fun c32 => ?_) (fun c32 => ?_)
                · refine lv_iload_n hx hb dX7_eight_194 rfl (lv_at hl 6 rfl) ?_
                  refine lv_bipush (v := 6) hx hb dX7_eight_195 (by decide) ?_
                  refine lv_icmp_ne (tgt := 211) hx hb dX7_eight_197 (by decide) (fun c33 => ?_) (fun c33 => ?_)
                  · refine lv_iload_n hx hb dX7_eight_211 rfl (lv_at hl 6 rfl) ?_
                    refine lv_bipush (v := 14) hx hb dX7_eight_212 (by decide) ?_
                    refine lv_icmp_ne (tgt := 229) hx hb dX7_eight_214 (by decide) (fun c34 => ?_) (fun c34 => ?_)
                    · refine lv_aload_n hx hb dX7_eight_229 rfl (lv_at hl 3 rfl) ?_
                      refine lv_iconst (v := 0) hx hb dX7_eight_230 (by decide) ?_
                      refine g_Vv hx hb hml hown hg (c_X7_goesOn l dC dI cI cZ x hi _ _) cs_X7_154 rfl rfl ⟨Nat.le_of_ble_eq_true rfl, Nat.le_of_ble_eq_true rfl⟩ hK hP hS (q0 := 0) rfl rfl rfl hl.1 rfl (Nat.le_of_ble_eq_true rfl) dX7_eight_231 ⟨Nat.zero_le _, Nat.zero_le _⟩ (fun H locs hP hS => ?_)
                      refine lv_iconst (v := 0) hx hb dX7_eight_234 (by decide) ?_
                      have hF : (_, _) = F := hF
                      exact g_iret hx hb hr hlocks hP hS dX7_eight_235 (g_p1 hF) (g_p2 hF)
                    · exact absurd c34 (by rw [c27]; decide)
                  · exact absurd c33 (by rw [c27]; decide)
                · exact absurd c32 (by rw [c27]; decide)
            · exact absurd c30 (by rw [c27]; decide)
          · exact absurd c28 (by rw [c27]; decide)
      · have hF := (if_pos c19).symm.trans hF
        have hok := Eq.mp (if_pos c19) hok
        refine lv_iload hx hb dX7_eight_43 (lv_at hl 1 rfl) ?_
        refine lv_iload hx hb dX7_eight_45 (lv_at hl 0 rfl) ?_
        refine lv_iand hx hb dX7_eight_47 ?_
        refine lv_goto (tgt := 121) hx hb dX7_eight_48 (by decide) ?_
        refine lv_istore hx hb dX7_eight_121 hl (by decide) rfl (fun ls hl => ?_)
        have hl : lv_has ls 7 [(6, _), (5, _), (4, _), (0, _), (1, _), (2, _), (3, _)] := hl
        refine lv_iload_n hx hb dX7_eight_123 rfl (lv_at hl 6 rfl) ?_
        refine lv_bipush (v := 7) hx hb dX7_eight_124 (by decide) ?_
        refine lv_icmp_le (tgt := 137) hx hb dX7_eight_126 (by decide) (fun c20 => ?_) (fun c20 => ?_)
        · refine lv_aload_n hx hb dX7_eight_137 rfl (lv_at hl 3 rfl) ?_
          refine ge_X7_v hx hb hg hown kf_X7_16 hK hP dX7_eight_138 ?_
          refine lv_iload_n hx hb dX7_eight_141 rfl (lv_at hl 4 rfl) ?_
          refine lv_iload hx hb dX7_eight_142 (lv_at hl 0 rfl) ?_
          refine lv_sipush (v := 255) hx hb dX7_eight_144 (by decide) ?_
          refine lv_iand hx hb dX7_eight_147 ?_
          obtain ⟨c21, hok⟩ := hok
          refine ma_v hi hx hb hK hP hS c21 dX7_eight_148 (fun H locs hP hS => ?_)
          refine lv_iload_n hx hb dX7_eight_149 rfl (lv_at hl 6 rfl) ?_
          refine lv_iconst (v := 4) hx hb dX7_eight_150 (by decide) ?_
          refine lv_icmp_ne (tgt := 166) hx hb dX7_eight_151 (by decide) (fun c22 => ?_) (fun c22 => ?_)
          · refine lv_iload_n hx hb dX7_eight_166 rfl (lv_at hl 6 rfl) ?_
            refine lv_iconst (v := 5) hx hb dX7_eight_167 (by decide) ?_
            refine lv_icmp_eq (tgt := 177) hx hb dX7_eight_168 (by decide) (fun c23 => ?_) (fun c23 => ?_)
            · exact absurd c23 (by rw [c19]; decide)
            · refine lv_iload_n hx hb dX7_eight_171 rfl (lv_at hl 6 rfl) ?_
              refine lv_bipush (v := 7) hx hb dX7_eight_172 (by decide) ?_
              refine lv_icmp_ne (tgt := 194) hx hb dX7_eight_174 (by decide) (fun c24 => ?_) (fun c24 => ?_)
              · refine lv_iload_n hx hb dX7_eight_194 rfl (lv_at hl 6 rfl) ?_
                refine lv_bipush (v := 6) hx hb dX7_eight_195 (by decide) ?_
                refine lv_icmp_ne (tgt := 211) hx hb dX7_eight_197 (by decide) (fun c25 => ?_) (fun c25 => ?_)
                · refine lv_iload_n hx hb dX7_eight_211 rfl (lv_at hl 6 rfl) ?_
                  refine lv_bipush (v := 14) hx hb dX7_eight_212 (by decide) ?_
                  refine lv_icmp_ne (tgt := 229) hx hb dX7_eight_214 (by decide) (fun c26 => ?_) (fun c26 => ?_)
                  · refine lv_aload_n hx hb dX7_eight_229 rfl (lv_at hl 3 rfl) ?_
                    refine lv_iconst (v := 0) hx hb dX7_eight_230 (by decide) ?_
                    refine g_Vv hx hb hml hown hg (c_X7_goesOn l dC dI cI cZ x hi _ _) cs_X7_154 rfl rfl ⟨Nat.le_of_ble_eq_true rfl, Nat.le_of_ble_eq_true rfl⟩ hK hP hS (q0 := 0) rfl rfl rfl hl.1 rfl (Nat.le_of_ble_eq_true rfl) dX7_eight_231 ⟨Nat.zero_le _, Nat.zero_le _⟩ (fun H locs hP hS => ?_)
                    refine lv_iconst (v := 0) hx hb dX7_eight_234 (by decide) ?_
                    have hF : (_, _) = F := hF
                    exact g_iret hx hb hr hlocks hP hS dX7_eight_235 (g_p1 hF) (g_p2 hF)
                  · exact absurd c26 (by rw [c19]; decide)
                · exact absurd c25 (by rw [c19]; decide)
              · exact absurd c24 (by rw [c19]; decide)
          · exact absurd c22 (by rw [c19]; decide)
        · exact absurd c20 (by rw [c19]; decide)
    · have hF := (if_pos c11).symm.trans hF
      have hok := Eq.mp (if_pos c11) hok
      refine lv_iload hx hb dX7_eight_30 (lv_at hl 1 rfl) ?_
      refine lv_iload hx hb dX7_eight_32 (lv_at hl 0 rfl) ?_
      refine lv_ior hx hb dX7_eight_34 ?_
      refine lv_goto (tgt := 121) hx hb dX7_eight_35 (by decide) ?_
      refine lv_istore hx hb dX7_eight_121 hl (by decide) rfl (fun ls hl => ?_)
      have hl : lv_has ls 7 [(6, _), (5, _), (4, _), (0, _), (1, _), (2, _), (3, _)] := hl
      refine lv_iload_n hx hb dX7_eight_123 rfl (lv_at hl 6 rfl) ?_
      refine lv_bipush (v := 7) hx hb dX7_eight_124 (by decide) ?_
      refine lv_icmp_le (tgt := 137) hx hb dX7_eight_126 (by decide) (fun c12 => ?_) (fun c12 => ?_)
      · refine lv_aload_n hx hb dX7_eight_137 rfl (lv_at hl 3 rfl) ?_
        refine ge_X7_v hx hb hg hown kf_X7_16 hK hP dX7_eight_138 ?_
        refine lv_iload_n hx hb dX7_eight_141 rfl (lv_at hl 4 rfl) ?_
        refine lv_iload hx hb dX7_eight_142 (lv_at hl 0 rfl) ?_
        refine lv_sipush (v := 255) hx hb dX7_eight_144 (by decide) ?_
        refine lv_iand hx hb dX7_eight_147 ?_
        obtain ⟨c13, hok⟩ := hok
        refine ma_v hi hx hb hK hP hS c13 dX7_eight_148 (fun H locs hP hS => ?_)
        refine lv_iload_n hx hb dX7_eight_149 rfl (lv_at hl 6 rfl) ?_
        refine lv_iconst (v := 4) hx hb dX7_eight_150 (by decide) ?_
        refine lv_icmp_ne (tgt := 166) hx hb dX7_eight_151 (by decide) (fun c14 => ?_) (fun c14 => ?_)
        · refine lv_iload_n hx hb dX7_eight_166 rfl (lv_at hl 6 rfl) ?_
          refine lv_iconst (v := 5) hx hb dX7_eight_167 (by decide) ?_
          refine lv_icmp_eq (tgt := 177) hx hb dX7_eight_168 (by decide) (fun c15 => ?_) (fun c15 => ?_)
          · exact absurd c15 (by rw [c11]; decide)
          · refine lv_iload_n hx hb dX7_eight_171 rfl (lv_at hl 6 rfl) ?_
            refine lv_bipush (v := 7) hx hb dX7_eight_172 (by decide) ?_
            refine lv_icmp_ne (tgt := 194) hx hb dX7_eight_174 (by decide) (fun c16 => ?_) (fun c16 => ?_)
            · refine lv_iload_n hx hb dX7_eight_194 rfl (lv_at hl 6 rfl) ?_
              refine lv_bipush (v := 6) hx hb dX7_eight_195 (by decide) ?_
              refine lv_icmp_ne (tgt := 211) hx hb dX7_eight_197 (by decide) (fun c17 => ?_) (fun c17 => ?_)
              · refine lv_iload_n hx hb dX7_eight_211 rfl (lv_at hl 6 rfl) ?_
                refine lv_bipush (v := 14) hx hb dX7_eight_212 (by decide) ?_
                refine lv_icmp_ne (tgt := 229) hx hb dX7_eight_214 (by decide) (fun c18 => ?_) (fun c18 => ?_)
                · refine lv_aload_n hx hb dX7_eight_229 rfl (lv_at hl 3 rfl) ?_
                  refine lv_iconst (v := 0) hx hb dX7_eight_230 (by decide) ?_
                  refine g_Vv hx hb hml hown hg (c_X7_goesOn l dC dI cI cZ x hi _ _) cs_X7_154 rfl rfl ⟨Nat.le_of_ble_eq_true rfl, Nat.le_of_ble_eq_true rfl⟩ hK hP hS (q0 := 0) rfl rfl rfl hl.1 rfl (Nat.le_of_ble_eq_true rfl) dX7_eight_231 ⟨Nat.zero_le _, Nat.zero_le _⟩ (fun H locs hP hS => ?_)
                  refine lv_iconst (v := 0) hx hb dX7_eight_234 (by decide) ?_
                  have hF : (_, _) = F := hF
                  exact g_iret hx hb hr hlocks hP hS dX7_eight_235 (g_p1 hF) (g_p2 hF)
                · exact absurd c18 (by rw [c11]; decide)
              · exact absurd c17 (by rw [c11]; decide)
            · exact absurd c16 (by rw [c11]; decide)
        · exact absurd c14 (by rw [c11]; decide)
      · exact absurd c12 (by rw [c11]; decide)
  · have hF := (if_pos c3).symm.trans hF
    have hok := Eq.mp (if_pos c3) hok
    refine lv_iload hx hb dX7_eight_20 (lv_at hl 0 rfl) ?_
    refine lv_goto (tgt := 121) hx hb dX7_eight_22 (by decide) ?_
    refine lv_istore hx hb dX7_eight_121 hl (by decide) rfl (fun ls hl => ?_)
    have hl : lv_has ls 7 [(6, _), (5, _), (4, _), (0, _), (1, _), (2, _), (3, _)] := hl
    refine lv_iload_n hx hb dX7_eight_123 rfl (lv_at hl 6 rfl) ?_
    refine lv_bipush (v := 7) hx hb dX7_eight_124 (by decide) ?_
    refine lv_icmp_le (tgt := 137) hx hb dX7_eight_126 (by decide) (fun c4 => ?_) (fun c4 => ?_)
    · refine lv_aload_n hx hb dX7_eight_137 rfl (lv_at hl 3 rfl) ?_
      refine ge_X7_v hx hb hg hown kf_X7_16 hK hP dX7_eight_138 ?_
      refine lv_iload_n hx hb dX7_eight_141 rfl (lv_at hl 4 rfl) ?_
      refine lv_iload hx hb dX7_eight_142 (lv_at hl 0 rfl) ?_
      refine lv_sipush (v := 255) hx hb dX7_eight_144 (by decide) ?_
      refine lv_iand hx hb dX7_eight_147 ?_
      obtain ⟨c5, hok⟩ := hok
      refine ma_v hi hx hb hK hP hS c5 dX7_eight_148 (fun H locs hP hS => ?_)
      refine lv_iload_n hx hb dX7_eight_149 rfl (lv_at hl 6 rfl) ?_
      refine lv_iconst (v := 4) hx hb dX7_eight_150 (by decide) ?_
      refine lv_icmp_ne (tgt := 166) hx hb dX7_eight_151 (by decide) (fun c6 => ?_) (fun c6 => ?_)
      · refine lv_iload_n hx hb dX7_eight_166 rfl (lv_at hl 6 rfl) ?_
        refine lv_iconst (v := 5) hx hb dX7_eight_167 (by decide) ?_
        refine lv_icmp_eq (tgt := 177) hx hb dX7_eight_168 (by decide) (fun c7 => ?_) (fun c7 => ?_)
        · exact absurd c7 (by rw [c3]; decide)
        · refine lv_iload_n hx hb dX7_eight_171 rfl (lv_at hl 6 rfl) ?_
          refine lv_bipush (v := 7) hx hb dX7_eight_172 (by decide) ?_
          refine lv_icmp_ne (tgt := 194) hx hb dX7_eight_174 (by decide) (fun c8 => ?_) (fun c8 => ?_)
          · refine lv_iload_n hx hb dX7_eight_194 rfl (lv_at hl 6 rfl) ?_
            refine lv_bipush (v := 6) hx hb dX7_eight_195 (by decide) ?_
            refine lv_icmp_ne (tgt := 211) hx hb dX7_eight_197 (by decide) (fun c9 => ?_) (fun c9 => ?_)
            · refine lv_iload_n hx hb dX7_eight_211 rfl (lv_at hl 6 rfl) ?_
              refine lv_bipush (v := 14) hx hb dX7_eight_212 (by decide) ?_
              refine lv_icmp_ne (tgt := 229) hx hb dX7_eight_214 (by decide) (fun c10 => ?_) (fun c10 => ?_)
              · refine lv_aload_n hx hb dX7_eight_229 rfl (lv_at hl 3 rfl) ?_
                refine lv_iconst (v := 0) hx hb dX7_eight_230 (by decide) ?_
                refine g_Vv hx hb hml hown hg (c_X7_goesOn l dC dI cI cZ x hi _ _) cs_X7_154 rfl rfl ⟨Nat.le_of_ble_eq_true rfl, Nat.le_of_ble_eq_true rfl⟩ hK hP hS (q0 := 0) rfl rfl rfl hl.1 rfl (Nat.le_of_ble_eq_true rfl) dX7_eight_231 ⟨Nat.zero_le _, Nat.zero_le _⟩ (fun H locs hP hS => ?_)
                refine lv_iconst (v := 0) hx hb dX7_eight_234 (by decide) ?_
                have hF : (_, _) = F := hF
                exact g_iret hx hb hr hlocks hP hS dX7_eight_235 (g_p1 hF) (g_p2 hF)
              · exact absurd c10 (by rw [c3]; decide)
            · exact absurd c9 (by rw [c3]; decide)
          · exact absurd c8 (by rw [c3]; decide)
      · exact absurd c6 (by rw [c3]; decide)
    · exact absurd c4 (by rw [c3]; decide)
def f_X7_draw_L : Nat → Nat → MS → Int32 → Int32 → Int32 → Int32 → Int32 → Int32 → Int32 → Int32 → Int32 → MS
  | 0, _, u, _, _, _, _, _, _, _, _, _ => u
  | n + 1, tag, u, a1, a2, a3, a4, a5, a6, a7, a8, a9 =>
    if tag = 28 then
      if a3 ≤ a7 then
        if a6 = 0 then
          let u3 : MS := ms_v u (upd (mq_v u) 15 0)
          u3
        else
          let u4 : MS := ms_v u (upd (mq_v u) 15 1)
          u4
      else
        if 32 ≤ (a5 + a7) then
          if a6 = 0 then
            let u5 : MS := ms_v u (upd (mq_v u) 15 0)
            u5
          else
            let u6 : MS := ms_v u (upd (mq_v u) 15 1)
            u6
        else
          let t7 : Int32 := (f_X7_byteAt u ((mq_v u 16) + a7))
          f_X7_draw_L n 63 u a1 a2 a3 a4 a5 a6 a7 t7 0
    else
      if 8 ≤ a9 then
        let t8 : Int32 := a7 + Int32.ofInt 1
        f_X7_draw_L n 28 u a1 a2 a3 a4 a5 a6 t8 0 0
      else
        if 64 ≤ (a4 + a9) then
          let t9 : Int32 := a7 + Int32.ofInt 1
          f_X7_draw_L n 28 u a1 a2 a3 a4 a5 a6 t9 0 0
        else
          if ((a8 >>> (((7 : Int32) - a9) &&& 31)) &&& 1) = 0 then
            let t10 : Int32 := a9 + Int32.ofInt 1
            f_X7_draw_L n 63 u a1 a2 a3 a4 a5 a6 a7 a8 t10
          else
            let t11 : Int32 := (((1792 : Int32) + ((8 : Int32) * (a5 + a7))) + ((a4 + a9) >>> ((3 : Int32) &&& 31)))
            let t12 : Int32 := ((128 : Int32) >>> (((a4 + a9) &&& 7) &&& 31))
            let t13 : Int32 := (a6 ||| ((mq_mem u (t11).toNatClampNeg) &&& t12))
            let u14 : MS := ms_mem u (upd (mq_mem u) (t11).toNatClampNeg ((mq_mem u (t11).toNatClampNeg) ^^^ t12))
            let t15 : Int32 := a9 + Int32.ofInt 1
            f_X7_draw_L n 63 u14 a1 a2 a3 a4 a5 t13 a7 a8 t15
def ok_X7_draw_L : Nat → Nat → MS → Int32 → Int32 → Int32 → Int32 → Int32 → Int32 → Int32 → Int32 → Int32 → Prop
  | 0, _, _, _, _, _, _, _, _, _, _, _ => False
  | n + 1, tag, u, a1, a2, a3, a4, a5, a6, a7, a8, a9 =>
    if tag = 28 then
      if a3 ≤ a7 then
        if a6 = 0 then
          let u3 : MS := ms_v u (upd (mq_v u) 15 0)
          True
        else
          let u4 : MS := ms_v u (upd (mq_v u) 15 1)
          True
      else
        if 32 ≤ (a5 + a7) then
          if a6 = 0 then
            let u5 : MS := ms_v u (upd (mq_v u) 15 0)
            True
          else
            let u6 : MS := ms_v u (upd (mq_v u) 15 1)
            True
        else
          let t7 : Int32 := (f_X7_byteAt u ((mq_v u 16) + a7))
          ok_X7_draw_L n 63 u a1 a2 a3 a4 a5 a6 a7 t7 0
    else
      if 8 ≤ a9 then
        let t8 : Int32 := a7 + Int32.ofInt 1
        ok_X7_draw_L n 28 u a1 a2 a3 a4 a5 a6 t8 0 0
      else
        if 64 ≤ (a4 + a9) then
          let t9 : Int32 := a7 + Int32.ofInt 1
          ok_X7_draw_L n 28 u a1 a2 a3 a4 a5 a6 t9 0 0
        else
          if ((a8 >>> (((7 : Int32) - a9) &&& 31)) &&& 1) = 0 then
            let t10 : Int32 := a9 + Int32.ofInt 1
            ok_X7_draw_L n 63 u a1 a2 a3 a4 a5 a6 a7 a8 t10
          else
            let t11 : Int32 := (((1792 : Int32) + ((8 : Int32) * (a5 + a7))) + ((a4 + a9) >>> ((3 : Int32) &&& 31)))
            let t12 : Int32 := ((128 : Int32) >>> (((a4 + a9) &&& 7) &&& 31))
            vp_in t11 2048 ∧
            let t13 : Int32 := (a6 ||| ((mq_mem u (t11).toNatClampNeg) &&& t12))
            vp_in t11 2048 ∧
            vp_in t11 2048 ∧
            let u14 : MS := ms_mem u (upd (mq_mem u) (t11).toNatClampNeg ((mq_mem u (t11).toNatClampNeg) ^^^ t12))
            let t15 : Int32 := a9 + Int32.ofInt 1
            ok_X7_draw_L n 63 u14 a1 a2 a3 a4 a5 t13 a7 a8 t15
def f_X7_draw (u : MS) (p0 : Int32) (p1 : Int32) (p2 : Int32) : MS :=
  let t1 : Int32 := ((mq_v u (p0).toNatClampNeg) &&& 63)
  let t2 : Int32 := ((mq_v u (p1).toNatClampNeg) &&& 31)
  f_X7_draw_L 400 28 u p0 p1 p2 t1 t2 0 0 0 0
def ok_X7_draw (u : MS) (p0 : Int32) (p1 : Int32) (p2 : Int32) : Prop :=
  vp_in p0 22 ∧
  let t1 : Int32 := ((mq_v u (p0).toNatClampNeg) &&& 63)
  vp_in p1 22 ∧
  let t2 : Int32 := ((mq_v u (p1).toNatClampNeg) &&& 31)
  ok_X7_draw_L 400 28 u p0 p1 p2 t1 t2 0 0 0 0
set_option maxHeartbeats 4000000 in
set_option maxRecDepth 100000 in
theorem c_X7_draw (l : Launch) (dC : Nat → ClassId) (dI : Nat → Nat → Nat) (cI cZ : ClassId) (x : Nat → Nat) (hi : g_inj 7 x) (u : MS) (p0 : Int32) (p1 : Int32) (p2 : Int32) (hok : ok_X7_draw u p0 p1 p2) : g_Mv l yX7_draw (.code yX7_draw cX7_draw 12 none) { frames := 1, cells := 0, slots := 0, locals := 21 } (dC, dI) vwCl (tysW cI cZ) (wM x cI cZ) (g_bA 7 x) u [.ref (x 0), .int p0, .int p1, .int p2] (f_X7_draw u p0 p1 p2) := by
  refine Met.ofW (cc := cX7_draw) (maxL := 12) (ret := none) (by decide) rfl ?_
  intro p e s m args below meth c s₁ B hml hv
  obtain ⟨rfl, hP, hK⟩ := hv
  have hx := B.exec
  have hb := B.bytes
  have hr := B.returns
  have hts := atoms_spec (ws := .code yX7_draw cX7_draw 12 none :: gtbl) B.pre
  have hg : ∀ w ∈ gtbl, w.before _ s = true := fun w h => hts w (List.mem_cons_of_mem _ h)
  have hown : s.vm.findClass RX7 = some m.cls := findClass_of_methodNamed B.named
  have hlocks := B.notSynchronized
  have hS : va_S (g_bA 7 x) s.heap s.heap [] := va_S.rf
  have hl := lv_entry ([.ref (x 0), .int p0, .int p1, .int p2]) (n := 12) (Nat.le_of_ble_eq_true rfl)
  rw [lg_entry_eq]
  generalize (lg_sl ([.ref (x 0), .int p0, .int p1, .int p2]) ++ List.replicate (12 - (lg_sl ([.ref (x 0), .int p0, .int p1, .int p2])).length) Slot.unset).toArray = ls at hl ⊢
  have hl : lv_has ls 12 [(0, .ref (x 0)), (1, .int p0), (2, .int p1), (3, .int p2)] := hl
  obtain ⟨F, hF⟩ : ∃ F, f_X7_draw u p0 p1 p2 = F := ⟨_, rfl⟩
  rw [hF]
  have loop : ∀ (n : Nat), (∀ (u : MS) (a1 : Int32) (a2 : Int32) (a3 : Int32) (a4 : Int32) (a5 : Int32) (a6 : Int32) (a7 : Int32) (H : Heap) (locs : List Loc) (ls : Array Slot), f_X7_draw_L n 28 u a1 a2 a3 a4 a5 a6 a7 0 0 = F → ok_X7_draw_L n 28 u a1 a2 a3 a4 a5 a6 a7 0 0 → va_P (dC, dI) vwCl (wM x cI cZ u) H → va_S (g_bA 7 x) s.heap H locs → lv_has ls 12 [(0, .ref (x 0)), (1, .int a1), (2, .int a2), (3, .int a3), (4, .int a4), (5, .int a5), (6, .int a6), (7, .int a7)] → W p l e (headSpec (.code yX7_draw cX7_draw 12 none :: gtbl) { frames := 1, cells := 0, slots := 0, locals := 21 }).room s m ([.ref (x 0), .int p0, .int p1, .int p2] : List Value).toArray below meth c H locs 0 0 (MQ below (va_Qv (fun v1 => v1 = F) (fun v1 t => va_P (dC, dI) vwCl (wM x cI cZ v1) t.heap) (g_bA 7 x)) ([.ref (x 0), .int p0, .int p1, .int p2] : List Value).toArray s 0 0 (g_bA 7 x)) (F0 m 28 ls [])) ∧ (∀ (u : MS) (a1 : Int32) (a2 : Int32) (a3 : Int32) (a4 : Int32) (a5 : Int32) (a6 : Int32) (a7 : Int32) (a8 : Int32) (a9 : Int32) (H : Heap) (locs : List Loc) (ls : Array Slot), f_X7_draw_L n 63 u a1 a2 a3 a4 a5 a6 a7 a8 a9 = F → ok_X7_draw_L n 63 u a1 a2 a3 a4 a5 a6 a7 a8 a9 → va_P (dC, dI) vwCl (wM x cI cZ u) H → va_S (g_bA 7 x) s.heap H locs → lv_has ls 12 [(0, .ref (x 0)), (1, .int a1), (2, .int a2), (3, .int a3), (4, .int a4), (5, .int a5), (6, .int a6), (7, .int a7), (8, .int a8), (9, .int a9)] → W p l e (headSpec (.code yX7_draw cX7_draw 12 none :: gtbl) { frames := 1, cells := 0, slots := 0, locals := 21 }).room s m ([.ref (x 0), .int p0, .int p1, .int p2] : List Value).toArray below meth c H locs 0 0 (MQ below (va_Qv (fun v1 => v1 = F) (fun v1 t => va_P (dC, dI) vwCl (wM x cI cZ v1) t.heap) (g_bA 7 x)) ([.ref (x 0), .int p0, .int p1, .int p2] : List Value).toArray s 0 0 (g_bA 7 x)) (F0 m 63 ls [])) := by
    intro n
    induction n with
    | zero => exact ⟨fun u a1 a2 a3 a4 a5 a6 a7 H locs ls hF hok => hok.elim, fun u a1 a2 a3 a4 a5 a6 a7 a8 a9 H locs ls hF hok => hok.elim⟩
    | succ n ih =>
      refine ⟨?_, ?_⟩
      · intro u a1 a2 a3 a4 a5 a6 a7 H locs ls hF hok hP hS hl
        have hF := (if_pos rfl).symm.trans hF
        have hok := Eq.mp (if_pos rfl) hok
        refine lv_iload hx hb dX7_draw_28 (lv_at hl 7 rfl) ?_
        refine lv_iload_n hx hb dX7_draw_30 rfl (lv_at hl 3 rfl) ?_
        refine lv_icmp_ge (tgt := 171) hx hb dX7_draw_31 (by decide) (fun c3 => ?_) (fun c3 => ?_)
        · have hF := (if_pos c3).symm.trans hF
          have hok := Eq.mp (if_pos c3) hok
          refine lv_aload_n hx hb dX7_draw_171 rfl (lv_at hl 0 rfl) ?_
          refine ge_X7_v hx hb hg hown kf_X7_16 hK hP dX7_draw_172 ?_
          refine lv_bipush (v := 15) hx hb dX7_draw_175 (by decide) ?_
          refine lv_iload hx hb dX7_draw_177 (lv_at hl 6 rfl) ?_
          refine lv_if_eq (tgt := 186) hx hb dX7_draw_179 (by decide) (fun c4 => ?_) (fun c4 => ?_)
          · have hF := (if_pos c4).symm.trans hF
            have hok := Eq.mp (if_pos c4) hok
            refine lv_iconst (v := 0) hx hb dX7_draw_186 (by decide) ?_
            refine mac_v 15 (by decide) hi hx hb hK hP hS dX7_draw_187 (fun H locs hP hS => ?_)
            exact g_vret hx hb hr hlocks hP hS dX7_draw_188 hF
          · have hF := (if_neg c4).symm.trans hF
            have hok := Eq.mp (if_neg c4) hok
            refine lv_iconst (v := 1) hx hb dX7_draw_182 (by decide) ?_
            refine lv_goto (tgt := 187) hx hb dX7_draw_183 (by decide) ?_
            refine mac_v 15 (by decide) hi hx hb hK hP hS dX7_draw_187 (fun H locs hP hS => ?_)
            exact g_vret hx hb hr hlocks hP hS dX7_draw_188 hF
        · have hF := (if_neg c3).symm.trans hF
          have hok := Eq.mp (if_neg c3) hok
          refine lv_iload hx hb dX7_draw_34 (lv_at hl 5 rfl) ?_
          refine lv_iload hx hb dX7_draw_36 (lv_at hl 7 rfl) ?_
          refine lv_iadd hx hb dX7_draw_38 ?_
          refine lv_bipush (v := 32) hx hb dX7_draw_39 (by decide) ?_
          refine lv_icmp_ge (tgt := 171) hx hb dX7_draw_41 (by decide) (fun c5 => ?_) (fun c5 => ?_)
          · have hF := (if_pos c5).symm.trans hF
            have hok := Eq.mp (if_pos c5) hok
            refine lv_aload_n hx hb dX7_draw_171 rfl (lv_at hl 0 rfl) ?_
            refine ge_X7_v hx hb hg hown kf_X7_16 hK hP dX7_draw_172 ?_
            refine lv_bipush (v := 15) hx hb dX7_draw_175 (by decide) ?_
            refine lv_iload hx hb dX7_draw_177 (lv_at hl 6 rfl) ?_
            refine lv_if_eq (tgt := 186) hx hb dX7_draw_179 (by decide) (fun c6 => ?_) (fun c6 => ?_)
            · have hF := (if_pos c6).symm.trans hF
              have hok := Eq.mp (if_pos c6) hok
              refine lv_iconst (v := 0) hx hb dX7_draw_186 (by decide) ?_
              refine mac_v 15 (by decide) hi hx hb hK hP hS dX7_draw_187 (fun H locs hP hS => ?_)
              exact g_vret hx hb hr hlocks hP hS dX7_draw_188 hF
            · have hF := (if_neg c6).symm.trans hF
              have hok := Eq.mp (if_neg c6) hok
              refine lv_iconst (v := 1) hx hb dX7_draw_182 (by decide) ?_
              refine lv_goto (tgt := 187) hx hb dX7_draw_183 (by decide) ?_
              refine mac_v 15 (by decide) hi hx hb hK hP hS dX7_draw_187 (fun H locs hP hS => ?_)
              exact g_vret hx hb hr hlocks hP hS dX7_draw_188 hF
          · have hF := (if_neg c5).symm.trans hF
            have hok := Eq.mp (if_neg c5) hok
            refine lv_aload_n hx hb dX7_draw_44 rfl (lv_at hl 0 rfl) ?_
            refine lv_aload_n hx hb dX7_draw_45 rfl (lv_at hl 0 rfl) ?_
            refine ge_X7_v hx hb hg hown kf_X7_16 hK hP dX7_draw_46 ?_
            refine lv_bipush (v := 16) hx hb dX7_draw_49 (by decide) ?_
            refine mlc_v 16 (by decide) hx hb hK hP dX7_draw_51 ?_
            refine lv_iload hx hb dX7_draw_52 (lv_at hl 7 rfl) ?_
            refine lv_iadd hx hb dX7_draw_54 ?_
            refine g_Vi hx hb hml hown hg (c_X7_byteAt l dC dI cI cZ x hi _ _) cs_X7_43 rfl rfl ⟨Nat.le_of_ble_eq_true rfl, Nat.le_of_ble_eq_true rfl⟩ hK hP hS (q0 := 0) rfl rfl rfl hl.1 rfl (Nat.le_of_ble_eq_true rfl) dX7_draw_55 ⟨Nat.zero_le _, Nat.zero_le _⟩ (fun H locs hP hS => ?_)
            refine lv_istore hx hb dX7_draw_58 hl (by decide) rfl (fun ls hl => ?_)
            have hl : lv_has ls 12 [(8, _), (0, _), (1, _), (2, _), (3, _), (4, _), (5, _), (6, _), (7, _)] := hl
            refine lv_iconst (v := 0) hx hb dX7_draw_60 (by decide) ?_
            refine lv_istore hx hb dX7_draw_61 hl (by decide) rfl (fun ls hl => ?_)
            have hl : lv_has ls 12 [(9, _), (8, _), (0, _), (1, _), (2, _), (3, _), (4, _), (5, _), (6, _), (7, _)] := hl
            exact ih.2 _ _ _ _ _ _ _ _ _ _ _ _ _ hF hok hP hS (lv_sub hl [2, 3, 4, 5, 6, 7, 8, 9, 1, 0] rfl)
      · intro u a1 a2 a3 a4 a5 a6 a7 a8 a9 H locs ls hF hok hP hS hl
        have hF := (if_neg (by decide)).symm.trans hF
        have hok := Eq.mp (if_neg (by decide)) hok
        refine lv_iload hx hb dX7_draw_63 (lv_at hl 9 rfl) ?_
        refine lv_bipush (v := 8) hx hb dX7_draw_65 (by decide) ?_
        refine lv_icmp_ge (tgt := 165) hx hb dX7_draw_67 (by decide) (fun c7 => ?_) (fun c7 => ?_)
        · have hF := (if_pos c7).symm.trans hF
          have hok := Eq.mp (if_pos c7) hok
          refine lv_iinc hx hb dX7_draw_165 hl (k := 7) rfl rfl (by decide) rfl (fun ls hl => ?_)
          have hl : lv_has ls 12 [(7, _), (0, _), (1, _), (2, _), (3, _), (4, _), (5, _), (6, _), (8, _), (9, _)] := hl
          refine lv_goto (tgt := 28) hx hb dX7_draw_168 (by decide) ?_
          exact ih.1 _ _ _ _ _ _ _ _ _ _ _ hF hok hP hS (lv_sub hl [1, 2, 3, 4, 5, 6, 7, 0] rfl)
        · have hF := (if_neg c7).symm.trans hF
          have hok := Eq.mp (if_neg c7) hok
          refine lv_iload hx hb dX7_draw_70 (lv_at hl 4 rfl) ?_
          refine lv_iload hx hb dX7_draw_72 (lv_at hl 9 rfl) ?_
          refine lv_iadd hx hb dX7_draw_74 ?_
          refine lv_bipush (v := 64) hx hb dX7_draw_75 (by decide) ?_
          refine lv_icmp_ge (tgt := 165) hx hb dX7_draw_77 (by decide) (fun c8 => ?_) (fun c8 => ?_)
          · have hF := (if_pos c8).symm.trans hF
            have hok := Eq.mp (if_pos c8) hok
            refine lv_iinc hx hb dX7_draw_165 hl (k := 7) rfl rfl (by decide) rfl (fun ls hl => ?_)
            have hl : lv_has ls 12 [(7, _), (0, _), (1, _), (2, _), (3, _), (4, _), (5, _), (6, _), (8, _), (9, _)] := hl
            refine lv_goto (tgt := 28) hx hb dX7_draw_168 (by decide) ?_
            exact ih.1 _ _ _ _ _ _ _ _ _ _ _ hF hok hP hS (lv_sub hl [1, 2, 3, 4, 5, 6, 7, 0] rfl)
          · have hF := (if_neg c8).symm.trans hF
            have hok := Eq.mp (if_neg c8) hok
            refine lv_iload hx hb dX7_draw_80 (lv_at hl 8 rfl) ?_
            refine lv_bipush (v := 7) hx hb dX7_draw_82 (by decide) ?_
            refine lv_iload hx hb dX7_draw_84 (lv_at hl 9 rfl) ?_
            refine lv_isub hx hb dX7_draw_86 ?_
            refine lv_ishr hx hb dX7_draw_87 ?_
            refine lv_iconst (v := 1) hx hb dX7_draw_88 (by decide) ?_
            refine lv_iand hx hb dX7_draw_89 ?_
            refine lv_if_ne (tgt := 96) hx hb dX7_draw_90 (by decide) (fun c9 => ?_) (fun c9 => ?_)
            · have hF := (if_neg c9).symm.trans hF
              have hok := Eq.mp (if_neg c9) hok
              refine lv_sipush (v := 1792) hx hb dX7_draw_96 (by decide) ?_
              refine lv_bipush (v := 8) hx hb dX7_draw_99 (by decide) ?_
              refine lv_iload hx hb dX7_draw_101 (lv_at hl 5 rfl) ?_
              refine lv_iload hx hb dX7_draw_103 (lv_at hl 7 rfl) ?_
              refine lv_iadd hx hb dX7_draw_105 ?_
              refine lv_imul hx hb dX7_draw_106 ?_
              refine lv_iadd hx hb dX7_draw_107 ?_
              refine lv_iload hx hb dX7_draw_108 (lv_at hl 4 rfl) ?_
              refine lv_iload hx hb dX7_draw_110 (lv_at hl 9 rfl) ?_
              refine lv_iadd hx hb dX7_draw_112 ?_
              refine lv_iconst (v := 3) hx hb dX7_draw_113 (by decide) ?_
              refine lv_ishr hx hb dX7_draw_114 ?_
              refine lv_iadd hx hb dX7_draw_115 ?_
              refine lv_istore hx hb dX7_draw_116 hl (by decide) rfl (fun ls hl => ?_)
              have hl : lv_has ls 12 [(10, _), (0, _), (1, _), (2, _), (3, _), (4, _), (5, _), (6, _), (7, _), (8, _), (9, _)] := hl
              refine lv_sipush (v := 128) hx hb dX7_draw_118 (by decide) ?_
              refine lv_iload hx hb dX7_draw_121 (lv_at hl 5 rfl) ?_
              refine lv_iload hx hb dX7_draw_123 (lv_at hl 10 rfl) ?_
              refine lv_iadd hx hb dX7_draw_125 ?_
              refine lv_bipush (v := 7) hx hb dX7_draw_126 (by decide) ?_
              refine lv_iand hx hb dX7_draw_128 ?_
              refine lv_ishr hx hb dX7_draw_129 ?_
              refine lv_istore hx hb dX7_draw_130 hl (by decide) rfl (fun ls hl => ?_)
              have hl : lv_has ls 12 [(11, _), (10, _), (0, _), (1, _), (2, _), (3, _), (4, _), (5, _), (6, _), (7, _), (8, _), (9, _)] := hl
              refine lv_iload hx hb dX7_draw_132 (lv_at hl 8 rfl) ?_
              refine lv_aload_n hx hb dX7_draw_134 rfl (lv_at hl 2 rfl) ?_
              refine ge_X7_memory hx hb hg hown kf_X7_7 hK hP dX7_draw_135 ?_
              refine lv_iload hx hb dX7_draw_138 (lv_at hl 1 rfl) ?_
              obtain ⟨c10, hok⟩ := hok
              refine ml_mem hx hb hK hP c10 dX7_draw_140 ?_
              refine lv_iload hx hb dX7_draw_141 (lv_at hl 0 rfl) ?_
              refine lv_iand hx hb dX7_draw_143 ?_
              refine lv_ior hx hb dX7_draw_144 ?_
              refine lv_istore hx hb dX7_draw_145 hl (by decide) rfl (fun ls hl => ?_)
              have hl : lv_has ls 12 [(6, _), (11, _), (10, _), (0, _), (1, _), (2, _), (3, _), (4, _), (5, _), (7, _), (8, _), (9, _)] := hl
              refine lv_aload_n hx hb dX7_draw_147 rfl (lv_at hl 3 rfl) ?_
              refine ge_X7_memory hx hb hg hown kf_X7_7 hK hP dX7_draw_148 ?_
              refine lv_iload hx hb dX7_draw_151 (lv_at hl 2 rfl) ?_
              refine lv_dup2_11 hx hb dX7_draw_153 rfl rfl ?_
              obtain ⟨c11, hok⟩ := hok
              refine ml_mem hx hb hK hP c11 dX7_draw_154 ?_
              refine lv_iload hx hb dX7_draw_155 (lv_at hl 1 rfl) ?_
              refine lv_ixor hx hb dX7_draw_157 ?_
              obtain ⟨c12, hok⟩ := hok
              refine ma_mem hi hx hb hK hP hS c12 dX7_draw_158 (fun H locs hP hS => ?_)
              refine lv_iinc hx hb dX7_draw_159 hl (k := 11) rfl rfl (by decide) rfl (fun ls hl => ?_)
              have hl : lv_has ls 12 [(9, _), (6, _), (11, _), (10, _), (0, _), (1, _), (2, _), (3, _), (4, _), (5, _), (7, _), (8, _)] := hl
              refine lv_goto (tgt := 63) hx hb dX7_draw_162 (by decide) ?_
              exact ih.2 _ _ _ _ _ _ _ _ _ _ _ _ _ hF hok hP hS (lv_sub hl [4, 5, 6, 7, 8, 9, 1, 10, 11, 0] rfl)
            · have hF := (if_pos c9).symm.trans hF
              have hok := Eq.mp (if_pos c9) hok
              refine lv_goto (tgt := 159) hx hb dX7_draw_93 (by decide) ?_
              refine lv_iinc hx hb dX7_draw_159 hl (k := 9) rfl rfl (by decide) rfl (fun ls hl => ?_)
              have hl : lv_has ls 12 [(9, _), (0, _), (1, _), (2, _), (3, _), (4, _), (5, _), (6, _), (7, _), (8, _)] := hl
              refine lv_goto (tgt := 63) hx hb dX7_draw_162 (by decide) ?_
              exact ih.2 _ _ _ _ _ _ _ _ _ _ _ _ _ hF hok hP hS (lv_sub hl [1, 2, 3, 4, 5, 6, 7, 8, 9, 0] rfl)
  refine lv_aload_n hx hb dX7_draw_0 rfl (lv_at hl 0 rfl) ?_
  refine ge_X7_v hx hb hg hown kf_X7_16 hK hP dX7_draw_1 ?_
  refine lv_iload_n hx hb dX7_draw_4 rfl (lv_at hl 1 rfl) ?_
  obtain ⟨c1, hok⟩ := hok
  refine ml_v hx hb hK hP c1 dX7_draw_5 ?_
  refine lv_bipush (v := 63) hx hb dX7_draw_6 (by decide) ?_
  refine lv_iand hx hb dX7_draw_8 ?_
  refine lv_istore hx hb dX7_draw_9 hl (by decide) rfl (fun ls hl => ?_)
  have hl : lv_has ls 12 [(4, _), (0, _), (1, _), (2, _), (3, _)] := hl
  refine lv_aload_n hx hb dX7_draw_11 rfl (lv_at hl 1 rfl) ?_
  refine ge_X7_v hx hb hg hown kf_X7_16 hK hP dX7_draw_12 ?_
  refine lv_iload_n hx hb dX7_draw_15 rfl (lv_at hl 3 rfl) ?_
  obtain ⟨c2, hok⟩ := hok
  refine ml_v hx hb hK hP c2 dX7_draw_16 ?_
  refine lv_bipush (v := 31) hx hb dX7_draw_17 (by decide) ?_
  refine lv_iand hx hb dX7_draw_19 ?_
  refine lv_istore hx hb dX7_draw_20 hl (by decide) rfl (fun ls hl => ?_)
  have hl : lv_has ls 12 [(5, _), (4, _), (0, _), (1, _), (2, _), (3, _)] := hl
  refine lv_iconst (v := 0) hx hb dX7_draw_22 (by decide) ?_
  refine lv_istore hx hb dX7_draw_23 hl (by decide) rfl (fun ls hl => ?_)
  have hl : lv_has ls 12 [(6, _), (5, _), (4, _), (0, _), (1, _), (2, _), (3, _)] := hl
  refine lv_iconst (v := 0) hx hb dX7_draw_25 (by decide) ?_
  refine lv_istore hx hb dX7_draw_26 hl (by decide) rfl (fun ls hl => ?_)
  have hl : lv_has ls 12 [(7, _), (6, _), (5, _), (4, _), (0, _), (1, _), (2, _), (3, _)] := hl
  exact (loop 400).1 _ _ _ _ _ _ _ _ _ _ _ hF hok hP hS (lv_sub hl [4, 5, 6, 7, 3, 2, 1, 0] rfl)
def f_X7_leastKey_L : Nat → MS → Int32 → Int32
  | 0, u, _ => 0
  | n + 1, u, a1 =>
    if 16 ≤ a1 then
      (-1)
    else
      if (mq_down u (a1).toNatClampNeg) = 0 then
        let t1 : Int32 := a1 + Int32.ofInt 1
        f_X7_leastKey_L n u t1
      else
        a1
def ok_X7_leastKey_L : Nat → MS → Int32 → Prop
  | 0, _, _ => False
  | n + 1, u, a1 =>
    if 16 ≤ a1 then
      True
    else
      vp_in a1 16 ∧
      if (mq_down u (a1).toNatClampNeg) = 0 then
        let t1 : Int32 := a1 + Int32.ofInt 1
        ok_X7_leastKey_L n u t1
      else
        True
def f_X7_leastKey (u : MS) : Int32 :=
  f_X7_leastKey_L 17 u 0
def ok_X7_leastKey (u : MS) : Prop :=
  ok_X7_leastKey_L 17 u 0
set_option maxHeartbeats 4000000 in
set_option maxRecDepth 100000 in
theorem c_X7_leastKey (l : Launch) (dC : Nat → ClassId) (dI : Nat → Nat → Nat) (cI cZ : ClassId) (x : Nat → Nat) (hi : g_inj 7 x) (u : MS) (hok : ok_X7_leastKey u) : g_Mi l yX7_leastKey (.code yX7_leastKey cX7_leastKey 2 (some .int)) { frames := 0, cells := 0, slots := 0, locals := 0 } (dC, dI) vwCl (tysW cI cZ) (wM x cI cZ) (g_bA 7 x) u [.ref (x 0)] (f_X7_leastKey u) u := by
  refine Met.ofW (cc := cX7_leastKey) (maxL := 2) (ret := (some .int)) (by decide) rfl ?_
  intro p e s m args below meth c s₁ B hml hv
  obtain ⟨rfl, hP, hK⟩ := hv
  have hx := B.exec
  have hb := B.bytes
  have hr := B.returns
  have hts := atoms_spec (ws := .code yX7_leastKey cX7_leastKey 2 (some .int) :: gtbl) B.pre
  have hg : ∀ w ∈ gtbl, w.before _ s = true := fun w h => hts w (List.mem_cons_of_mem _ h)
  have hown : s.vm.findClass RX7 = some m.cls := findClass_of_methodNamed B.named
  have hlocks := B.notSynchronized
  have hS : va_S (g_bA 7 x) s.heap s.heap [] := va_S.rf
  have hl := lv_entry ([.ref (x 0)]) (n := 2) (Nat.le_of_ble_eq_true rfl)
  rw [lg_entry_eq]
  generalize (lg_sl ([.ref (x 0)]) ++ List.replicate (2 - (lg_sl ([.ref (x 0)])).length) Slot.unset).toArray = ls at hl ⊢
  have hl : lv_has ls 2 [(0, .ref (x 0))] := hl
  obtain ⟨F, hF⟩ : ∃ F, f_X7_leastKey u = F := ⟨_, rfl⟩
  rw [hF]
  have loop : ∀ (n : Nat), (∀ (a1 : Int32) (H : Heap) (locs : List Loc) (ls : Array Slot), f_X7_leastKey_L n u a1 = F → ok_X7_leastKey_L n u a1 → va_P (dC, dI) vwCl (wM x cI cZ u) H → va_S (g_bA 7 x) s.heap H locs → lv_has ls 2 [(0, .ref (x 0)), (1, .int a1)] → W p l e (headSpec (.code yX7_leastKey cX7_leastKey 2 (some .int) :: gtbl) { frames := 0, cells := 0, slots := 0, locals := 0 }).room s m ([.ref (x 0)] : List Value).toArray below meth c H locs 0 0 (MQ below (va_Qi (fun r1 v1 => r1 = F ∧ v1 = u) (fun v1 t => va_P (dC, dI) vwCl (wM x cI cZ v1) t.heap) (g_bA 7 x)) ([.ref (x 0)] : List Value).toArray s 0 0 (g_bA 7 x)) (F0 m 2 ls [])) := by
    intro n
    induction n with
    | zero => intro a1 H locs ls hF hok; exact hok.elim
    | succ n ih =>
      intro a1 H locs ls hF hok hP hS hl
      refine lv_iload_n hx hb dX7_leastKey_2 rfl (lv_at hl 1 rfl) ?_
      refine lv_bipush (v := 16) hx hb dX7_leastKey_3 (by decide) ?_
      refine lv_icmp_ge (tgt := 25) hx hb dX7_leastKey_5 (by decide) (fun c1 => ?_) (fun c1 => ?_)
      · have hF := (if_pos c1).symm.trans hF
        have hok := Eq.mp (if_pos c1) hok
        refine lv_iconst (v := (-1)) hx hb dX7_leastKey_25 (by decide) ?_
        exact g_iret hx hb hr hlocks hP hS dX7_leastKey_26 hF rfl
      · have hF := (if_neg c1).symm.trans hF
        have hok := Eq.mp (if_neg c1) hok
        refine lv_aload_n hx hb dX7_leastKey_8 rfl (lv_at hl 0 rfl) ?_
        refine ge_X7_down hx hb hg hown kf_X7_22 hK hP dX7_leastKey_9 ?_
        refine lv_iload_n hx hb dX7_leastKey_12 rfl (lv_at hl 1 rfl) ?_
        obtain ⟨c2, hok⟩ := hok
        refine ml_down hx hb hK hP c2 dX7_leastKey_13 ?_
        refine lv_if_eq (tgt := 19) hx hb dX7_leastKey_14 (by decide) (fun c3 => ?_) (fun c3 => ?_)
        · have hF := (if_pos c3).symm.trans hF
          have hok := Eq.mp (if_pos c3) hok
          refine lv_iinc hx hb dX7_leastKey_19 hl (k := 1) rfl rfl (by decide) rfl (fun ls hl => ?_)
          have hl : lv_has ls 2 [(1, _), (0, _)] := hl
          refine lv_goto (tgt := 2) hx hb dX7_leastKey_22 (by decide) ?_
          exact ih _ _ _ _ hF hok hP hS (lv_sub hl [1, 0] rfl)
        · have hF := (if_neg c3).symm.trans hF
          have hok := Eq.mp (if_neg c3) hok
          refine lv_iload_n hx hb dX7_leastKey_17 rfl (lv_at hl 1 rfl) ?_
          exact g_iret hx hb hr hlocks hP hS dX7_leastKey_18 hF rfl
  refine lv_iconst (v := 0) hx hb dX7_leastKey_0 (by decide) ?_
  refine lv_istore_n hx hb dX7_leastKey_1 rfl hl (by decide) rfl (fun ls hl => ?_)
  have hl : lv_has ls 2 [(1, _), (0, _)] := hl
  exact (loop 17) _ _ _ _ hF hok hP hS (lv_sub hl [1, 0] rfl)
def f_X7_rows_L : Nat → MS → Int32 → Int32 → Int32 → MS
  | 0, u, _, _, _ => u
  | n + 1, u, a1, a2, a3 =>
    if a1 < a3 then
      let u1 : MS := ms_v u (upd (mq_v u) 16 ((((mq_v u 16) + a1) + 1) &&& 4095))
      u1
    else
      if a2 = 0 then
        let u2 : MS := ms_v u (upd (mq_v u) (a3).toNatClampNeg (f_X7_byteAt u ((mq_v u 16) + a3)))
        let t3 : Int32 := a3 + Int32.ofInt 1
        f_X7_rows_L n u2 a1 a2 t3
      else
        let r4 : MS := f_X7_store u ((mq_v u 16) + a3) (mq_v u (a3).toNatClampNeg)
        let t5 : Int32 := a3 + Int32.ofInt 1
        f_X7_rows_L n r4 a1 a2 t5
def ok_X7_rows_L : Nat → MS → Int32 → Int32 → Int32 → Prop
  | 0, _, _, _, _ => False
  | n + 1, u, a1, a2, a3 =>
    if a1 < a3 then
      let u1 : MS := ms_v u (upd (mq_v u) 16 ((((mq_v u 16) + a1) + 1) &&& 4095))
      True
    else
      if a2 = 0 then
        vp_in a3 22 ∧
        let u2 : MS := ms_v u (upd (mq_v u) (a3).toNatClampNeg (f_X7_byteAt u ((mq_v u 16) + a3)))
        let t3 : Int32 := a3 + Int32.ofInt 1
        ok_X7_rows_L n u2 a1 a2 t3
      else
        vp_in a3 22 ∧
        let r4 : MS := f_X7_store u ((mq_v u 16) + a3) (mq_v u (a3).toNatClampNeg)
        let t5 : Int32 := a3 + Int32.ofInt 1
        ok_X7_rows_L n r4 a1 a2 t5
def f_X7_rows (u : MS) (p0 : Int32) (p1 : Int32) : MS :=
  f_X7_rows_L 17 u p0 p1 0
def ok_X7_rows (u : MS) (p0 : Int32) (p1 : Int32) : Prop :=
  ok_X7_rows_L 17 u p0 p1 0
set_option maxHeartbeats 4000000 in
set_option maxRecDepth 100000 in
theorem c_X7_rows (l : Launch) (dC : Nat → ClassId) (dI : Nat → Nat → Nat) (cI cZ : ClassId) (x : Nat → Nat) (hi : g_inj 7 x) (u : MS) (p0 : Int32) (p1 : Int32) (hok : ok_X7_rows u p0 p1) : g_Mv l yX7_rows (.code yX7_rows cX7_rows 4 none) { frames := 1, cells := 0, slots := 0, locals := 22 } (dC, dI) vwCl (tysW cI cZ) (wM x cI cZ) (g_bA 7 x) u [.ref (x 0), .int p0, .int p1] (f_X7_rows u p0 p1) := by
  refine Met.ofW (cc := cX7_rows) (maxL := 4) (ret := none) (by decide) rfl ?_
  intro p e s m args below meth c s₁ B hml hv
  obtain ⟨rfl, hP, hK⟩ := hv
  have hx := B.exec
  have hb := B.bytes
  have hr := B.returns
  have hts := atoms_spec (ws := .code yX7_rows cX7_rows 4 none :: gtbl) B.pre
  have hg : ∀ w ∈ gtbl, w.before _ s = true := fun w h => hts w (List.mem_cons_of_mem _ h)
  have hown : s.vm.findClass RX7 = some m.cls := findClass_of_methodNamed B.named
  have hlocks := B.notSynchronized
  have hS : va_S (g_bA 7 x) s.heap s.heap [] := va_S.rf
  have hl := lv_entry ([.ref (x 0), .int p0, .int p1]) (n := 4) (Nat.le_of_ble_eq_true rfl)
  rw [lg_entry_eq]
  generalize (lg_sl ([.ref (x 0), .int p0, .int p1]) ++ List.replicate (4 - (lg_sl ([.ref (x 0), .int p0, .int p1])).length) Slot.unset).toArray = ls at hl ⊢
  have hl : lv_has ls 4 [(0, .ref (x 0)), (1, .int p0), (2, .int p1)] := hl
  obtain ⟨F, hF⟩ : ∃ F, f_X7_rows u p0 p1 = F := ⟨_, rfl⟩
  rw [hF]
  have loop : ∀ (n : Nat), (∀ (u : MS) (a1 : Int32) (a2 : Int32) (a3 : Int32) (H : Heap) (locs : List Loc) (ls : Array Slot), f_X7_rows_L n u a1 a2 a3 = F → ok_X7_rows_L n u a1 a2 a3 → va_P (dC, dI) vwCl (wM x cI cZ u) H → va_S (g_bA 7 x) s.heap H locs → lv_has ls 4 [(0, .ref (x 0)), (1, .int a1), (2, .int a2), (3, .int a3)] → W p l e (headSpec (.code yX7_rows cX7_rows 4 none :: gtbl) { frames := 1, cells := 0, slots := 0, locals := 22 }).room s m ([.ref (x 0), .int p0, .int p1] : List Value).toArray below meth c H locs 0 0 (MQ below (va_Qv (fun v1 => v1 = F) (fun v1 t => va_P (dC, dI) vwCl (wM x cI cZ v1) t.heap) (g_bA 7 x)) ([.ref (x 0), .int p0, .int p1] : List Value).toArray s 0 0 (g_bA 7 x)) (F0 m 2 ls [])) := by
    intro n
    induction n with
    | zero => intro u a1 a2 a3 H locs ls hF hok; exact hok.elim
    | succ n ih =>
      intro u a1 a2 a3 H locs ls hF hok hP hS hl
      refine lv_iload_n hx hb dX7_rows_2 rfl (lv_at hl 3 rfl) ?_
      refine lv_iload_n hx hb dX7_rows_3 rfl (lv_at hl 1 rfl) ?_
      refine lv_icmp_gt (tgt := 58) hx hb dX7_rows_4 (by decide) (fun c1 => ?_) (fun c1 => ?_)
      · have hF := (if_pos c1).symm.trans hF
        have hok := Eq.mp (if_pos c1) hok
        refine lv_aload_n hx hb dX7_rows_58 rfl (lv_at hl 0 rfl) ?_
        refine ge_X7_v hx hb hg hown kf_X7_16 hK hP dX7_rows_59 ?_
        refine lv_bipush (v := 16) hx hb dX7_rows_62 (by decide) ?_
        refine lv_aload_n hx hb dX7_rows_64 rfl (lv_at hl 0 rfl) ?_
        refine ge_X7_v hx hb hg hown kf_X7_16 hK hP dX7_rows_65 ?_
        refine lv_bipush (v := 16) hx hb dX7_rows_68 (by decide) ?_
        refine mlc_v 16 (by decide) hx hb hK hP dX7_rows_70 ?_
        refine lv_iload_n hx hb dX7_rows_71 rfl (lv_at hl 1 rfl) ?_
        refine lv_iadd hx hb dX7_rows_72 ?_
        refine lv_iconst (v := 1) hx hb dX7_rows_73 (by decide) ?_
        refine lv_iadd hx hb dX7_rows_74 ?_
        refine lv_sipush (v := 4095) hx hb dX7_rows_75 (by decide) ?_
        refine lv_iand hx hb dX7_rows_78 ?_
        refine mac_v 16 (by decide) hi hx hb hK hP hS dX7_rows_79 (fun H locs hP hS => ?_)
        exact g_vret hx hb hr hlocks hP hS dX7_rows_80 hF
      · have hF := (if_neg c1).symm.trans hF
        have hok := Eq.mp (if_neg c1) hok
        refine lv_iload_n hx hb dX7_rows_7 rfl (lv_at hl 2 rfl) ?_
        refine lv_if_eq (tgt := 33) hx hb dX7_rows_8 (by decide) (fun c2 => ?_) (fun c2 => ?_)
        · have hF := (if_pos c2).symm.trans hF
          have hok := Eq.mp (if_pos c2) hok
          refine lv_aload_n hx hb dX7_rows_33 rfl (lv_at hl 0 rfl) ?_
          refine ge_X7_v hx hb hg hown kf_X7_16 hK hP dX7_rows_34 ?_
          refine lv_iload_n hx hb dX7_rows_37 rfl (lv_at hl 3 rfl) ?_
          refine lv_aload_n hx hb dX7_rows_38 rfl (lv_at hl 0 rfl) ?_
          refine lv_aload_n hx hb dX7_rows_39 rfl (lv_at hl 0 rfl) ?_
          refine ge_X7_v hx hb hg hown kf_X7_16 hK hP dX7_rows_40 ?_
          refine lv_bipush (v := 16) hx hb dX7_rows_43 (by decide) ?_
          refine mlc_v 16 (by decide) hx hb hK hP dX7_rows_45 ?_
          refine lv_iload_n hx hb dX7_rows_46 rfl (lv_at hl 3 rfl) ?_
          refine lv_iadd hx hb dX7_rows_47 ?_
          refine g_Vi hx hb hml hown hg (c_X7_byteAt l dC dI cI cZ x hi _ _) cs_X7_43 rfl rfl ⟨Nat.le_of_ble_eq_true rfl, Nat.le_of_ble_eq_true rfl⟩ hK hP hS (q0 := 0) rfl rfl rfl hl.1 rfl (Nat.le_of_ble_eq_true rfl) dX7_rows_48 ⟨Nat.zero_le _, Nat.zero_le _⟩ (fun H locs hP hS => ?_)
          obtain ⟨c3, hok⟩ := hok
          refine ma_v hi hx hb hK hP hS c3 dX7_rows_51 (fun H locs hP hS => ?_)
          refine lv_iinc hx hb dX7_rows_52 hl (k := 3) rfl rfl (by decide) rfl (fun ls hl => ?_)
          have hl : lv_has ls 4 [(3, _), (0, _), (1, _), (2, _)] := hl
          refine lv_goto (tgt := 2) hx hb dX7_rows_55 (by decide) ?_
          exact ih _ _ _ _ _ _ _ hF hok hP hS (lv_sub hl [1, 2, 3, 0] rfl)
        · have hF := (if_neg c2).symm.trans hF
          have hok := Eq.mp (if_neg c2) hok
          refine lv_aload_n hx hb dX7_rows_11 rfl (lv_at hl 0 rfl) ?_
          refine lv_aload_n hx hb dX7_rows_12 rfl (lv_at hl 0 rfl) ?_
          refine ge_X7_v hx hb hg hown kf_X7_16 hK hP dX7_rows_13 ?_
          refine lv_bipush (v := 16) hx hb dX7_rows_16 (by decide) ?_
          refine mlc_v 16 (by decide) hx hb hK hP dX7_rows_18 ?_
          refine lv_iload_n hx hb dX7_rows_19 rfl (lv_at hl 3 rfl) ?_
          refine lv_iadd hx hb dX7_rows_20 ?_
          refine lv_aload_n hx hb dX7_rows_21 rfl (lv_at hl 0 rfl) ?_
          refine ge_X7_v hx hb hg hown kf_X7_16 hK hP dX7_rows_22 ?_
          refine lv_iload_n hx hb dX7_rows_25 rfl (lv_at hl 3 rfl) ?_
          obtain ⟨c4, hok⟩ := hok
          refine ml_v hx hb hK hP c4 dX7_rows_26 ?_
          refine g_Vv hx hb hml hown hg (c_X7_store l dC dI cI cZ x hi _ _ _) cs_X7_79 rfl rfl ⟨Nat.le_of_ble_eq_true rfl, Nat.le_of_ble_eq_true rfl⟩ hK hP hS (q0 := 0) rfl rfl rfl hl.1 rfl (Nat.le_of_ble_eq_true rfl) dX7_rows_27 ⟨Nat.zero_le _, Nat.zero_le _⟩ (fun H locs hP hS => ?_)
          refine lv_goto (tgt := 52) hx hb dX7_rows_30 (by decide) ?_
          refine lv_iinc hx hb dX7_rows_52 hl (k := 3) rfl rfl (by decide) rfl (fun ls hl => ?_)
          have hl : lv_has ls 4 [(3, _), (0, _), (1, _), (2, _)] := hl
          refine lv_goto (tgt := 2) hx hb dX7_rows_55 (by decide) ?_
          exact ih _ _ _ _ _ _ _ hF hok hP hS (lv_sub hl [1, 2, 3, 0] rfl)
  refine lv_iconst (v := 0) hx hb dX7_rows_0 (by decide) ?_
  refine lv_istore_n hx hb dX7_rows_1 rfl hl (by decide) rfl (fun ls hl => ?_)
  have hl : lv_has ls 4 [(3, _), (0, _), (1, _), (2, _)] := hl
  exact (loop 17) _ _ _ _ _ _ _ hF hok hP hS (lv_sub hl [1, 2, 3, 0] rfl)
def f_X7_fifteen (u : MS) (p0 : Int32) (p1 : Int32) : Int32 × MS :=
  if p1 = 7 then
    let u1 : MS := ms_v u (upd (mq_v u) (p0).toNatClampNeg (mq_v u 19))
    let r2 : MS := f_X7_goesOn u1 0
    (0, r2)
  else
    if p1 = 10 then
      let t3 : Int32 := (f_X7_leastKey u)
      if 0 ≤ t3 then
        let u4 : MS := ms_v u (upd (mq_v u) (p0).toNatClampNeg t3)
        let r5 : MS := f_X7_goesOn u4 0
        (0, r5)
      else
        (3, u)
    else
      if p1 = 21 then
        let u6 : MS := ms_v u (upd (mq_v u) 19 (mq_v u (p0).toNatClampNeg))
        let r7 : MS := f_X7_goesOn u6 0
        (0, r7)
      else
        if p1 = 24 then
          let u8 : MS := ms_v u (upd (mq_v u) 20 (mq_v u (p0).toNatClampNeg))
          let r9 : MS := f_X7_goesOn u8 0
          (0, r9)
        else
          if p1 = 30 then
            let u10 : MS := ms_v u (upd (mq_v u) 16 (((mq_v u 16) + (mq_v u (p0).toNatClampNeg)) &&& 4095))
            let r11 : MS := f_X7_goesOn u10 0
            (0, r11)
          else
            if p1 = 41 then
              let u12 : MS := ms_v u (upd (mq_v u) 16 ((5 : Int32) * ((mq_v u (p0).toNatClampNeg) &&& 15)))
              let r13 : MS := f_X7_goesOn u12 0
              (0, r13)
            else
              if p1 = 51 then
                let r14 : MS := f_X7_store u (mq_v u 16) ((mq_v u (p0).toNatClampNeg) / 100)
                let r15 : MS := f_X7_store r14 ((mq_v r14 16) + 1) (((mq_v r14 (p0).toNatClampNeg) / 10) - ((mq_v r14 (p0).toNatClampNeg) / 10) / 10 * 10)
                let r16 : MS := f_X7_store r15 ((mq_v r15 16) + 2) ((mq_v r15 (p0).toNatClampNeg) - (mq_v r15 (p0).toNatClampNeg) / 10 * 10)
                let r17 : MS := f_X7_goesOn r16 0
                (0, r17)
              else
                if p1 = 85 then
                  let r18 : MS := f_X7_rows u p0 1
                  let r19 : MS := f_X7_goesOn r18 0
                  (0, r19)
                else
                  if p1 = 101 then
                    let r20 : MS := f_X7_rows u p0 0
                    let r21 : MS := f_X7_goesOn r20 0
                    (0, r21)
                  else
                    (1, u)
def ok_X7_fifteen (u : MS) (p0 : Int32) (p1 : Int32) : Prop :=
  if p1 = 7 then
    vp_in p0 22 ∧
    let u1 : MS := ms_v u (upd (mq_v u) (p0).toNatClampNeg (mq_v u 19))
    let r2 : MS := f_X7_goesOn u1 0
    True
  else
    if p1 = 10 then
      ok_X7_leastKey u ∧
      let t3 : Int32 := (f_X7_leastKey u)
      if 0 ≤ t3 then
        vp_in p0 22 ∧
        let u4 : MS := ms_v u (upd (mq_v u) (p0).toNatClampNeg t3)
        let r5 : MS := f_X7_goesOn u4 0
        True
      else
        True
    else
      if p1 = 21 then
        vp_in p0 22 ∧
        let u6 : MS := ms_v u (upd (mq_v u) 19 (mq_v u (p0).toNatClampNeg))
        let r7 : MS := f_X7_goesOn u6 0
        True
      else
        if p1 = 24 then
          vp_in p0 22 ∧
          let u8 : MS := ms_v u (upd (mq_v u) 20 (mq_v u (p0).toNatClampNeg))
          let r9 : MS := f_X7_goesOn u8 0
          True
        else
          if p1 = 30 then
            vp_in p0 22 ∧
            let u10 : MS := ms_v u (upd (mq_v u) 16 (((mq_v u 16) + (mq_v u (p0).toNatClampNeg)) &&& 4095))
            let r11 : MS := f_X7_goesOn u10 0
            True
          else
            if p1 = 41 then
              vp_in p0 22 ∧
              let u12 : MS := ms_v u (upd (mq_v u) 16 ((5 : Int32) * ((mq_v u (p0).toNatClampNeg) &&& 15)))
              let r13 : MS := f_X7_goesOn u12 0
              True
            else
              if p1 = 51 then
                vp_in p0 22 ∧
                let r14 : MS := f_X7_store u (mq_v u 16) ((mq_v u (p0).toNatClampNeg) / 100)
                vp_in p0 22 ∧
                let r15 : MS := f_X7_store r14 ((mq_v r14 16) + 1) (((mq_v r14 (p0).toNatClampNeg) / 10) - ((mq_v r14 (p0).toNatClampNeg) / 10) / 10 * 10)
                vp_in p0 22 ∧
                let r16 : MS := f_X7_store r15 ((mq_v r15 16) + 2) ((mq_v r15 (p0).toNatClampNeg) - (mq_v r15 (p0).toNatClampNeg) / 10 * 10)
                let r17 : MS := f_X7_goesOn r16 0
                True
              else
                if p1 = 85 then
                  ok_X7_rows u p0 1 ∧
                  let r18 : MS := f_X7_rows u p0 1
                  let r19 : MS := f_X7_goesOn r18 0
                  True
                else
                  if p1 = 101 then
                    ok_X7_rows u p0 0 ∧
                    let r20 : MS := f_X7_rows u p0 0
                    let r21 : MS := f_X7_goesOn r20 0
                    True
                  else
                    True
set_option maxHeartbeats 4000000 in
set_option maxRecDepth 100000 in
theorem c_X7_fifteen (l : Launch) (dC : Nat → ClassId) (dI : Nat → Nat → Nat) (cI cZ : ClassId) (x : Nat → Nat) (hi : g_inj 7 x) (u : MS) (p0 : Int32) (p1 : Int32) (hok : ok_X7_fifteen u p0 p1) : g_Mi l yX7_fifteen (.code yX7_fifteen cX7_fifteen 4 (some .int)) { frames := 2, cells := 0, slots := 0, locals := 45 } (dC, dI) vwCl (tysW cI cZ) (wM x cI cZ) (g_bA 7 x) u [.ref (x 0), .int p0, .int p1] (f_X7_fifteen u p0 p1).1 (f_X7_fifteen u p0 p1).2 := by
  refine Met.ofW (cc := cX7_fifteen) (maxL := 4) (ret := (some .int)) (by decide) rfl ?_
  intro p e s m args below meth c s₁ B hml hv
  obtain ⟨rfl, hP, hK⟩ := hv
  have hx := B.exec
  have hb := B.bytes
  have hr := B.returns
  have hts := atoms_spec (ws := .code yX7_fifteen cX7_fifteen 4 (some .int) :: gtbl) B.pre
  have hg : ∀ w ∈ gtbl, w.before _ s = true := fun w h => hts w (List.mem_cons_of_mem _ h)
  have hown : s.vm.findClass RX7 = some m.cls := findClass_of_methodNamed B.named
  have hlocks := B.notSynchronized
  have hS : va_S (g_bA 7 x) s.heap s.heap [] := va_S.rf
  have hl := lv_entry ([.ref (x 0), .int p0, .int p1]) (n := 4) (Nat.le_of_ble_eq_true rfl)
  rw [lg_entry_eq]
  generalize (lg_sl ([.ref (x 0), .int p0, .int p1]) ++ List.replicate (4 - (lg_sl ([.ref (x 0), .int p0, .int p1])).length) Slot.unset).toArray = ls at hl ⊢
  have hl : lv_has ls 4 [(0, .ref (x 0)), (1, .int p0), (2, .int p1)] := hl
  obtain ⟨F, hF⟩ : ∃ F, f_X7_fifteen u p0 p1 = F := ⟨_, rfl⟩
  rw [hF]
  refine lv_iload_n hx hb dX7_fifteen_0 rfl (lv_at hl 2 rfl) ?_
  refine sw_case (v := 7) (fun c1 => ?_) (fun c1 => ?_)
  · have hF := (if_pos c1).symm.trans hF
    have hok := Eq.mp (if_pos c1) hok
    refine sw_lin (off := 83) (tgt := 84) 7 hx hb dX7_fifteen_1 c1 (by decide) (by decide) ?_
    refine lv_aload_n hx hb dX7_fifteen_84 rfl (lv_at hl 0 rfl) ?_
    refine ge_X7_v hx hb hg hown kf_X7_16 hK hP dX7_fifteen_85 ?_
    refine lv_iload_n hx hb dX7_fifteen_88 rfl (lv_at hl 1 rfl) ?_
    refine lv_aload_n hx hb dX7_fifteen_89 rfl (lv_at hl 0 rfl) ?_
    refine ge_X7_v hx hb hg hown kf_X7_16 hK hP dX7_fifteen_90 ?_
    refine lv_bipush (v := 19) hx hb dX7_fifteen_93 (by decide) ?_
    refine mlc_v 19 (by decide) hx hb hK hP dX7_fifteen_95 ?_
    obtain ⟨c2, hok⟩ := hok
    refine ma_v hi hx hb hK hP hS c2 dX7_fifteen_96 (fun H locs hP hS => ?_)
    refine lv_goto (tgt := 293) hx hb dX7_fifteen_97 (by decide) ?_
    refine lv_aload_n hx hb dX7_fifteen_293 rfl (lv_at hl 0 rfl) ?_
    refine lv_iconst (v := 0) hx hb dX7_fifteen_294 (by decide) ?_
    refine g_Vv hx hb hml hown hg (c_X7_goesOn l dC dI cI cZ x hi _ _) cs_X7_154 rfl rfl ⟨Nat.le_of_ble_eq_true rfl, Nat.le_of_ble_eq_true rfl⟩ hK hP hS (q0 := 0) rfl rfl rfl hl.1 rfl (Nat.le_of_ble_eq_true rfl) dX7_fifteen_295 ⟨Nat.zero_le _, Nat.zero_le _⟩ (fun H locs hP hS => ?_)
    refine lv_iconst (v := 0) hx hb dX7_fifteen_298 (by decide) ?_
    have hF : (_, _) = F := hF
    exact g_iret hx hb hr hlocks hP hS dX7_fifteen_299 (g_p1 hF) (g_p2 hF)
  · have hF := (if_neg c1).symm.trans hF
    have hok := Eq.mp (if_neg c1) hok
    refine sw_case (v := 10) (fun c3 => ?_) (fun c3 => ?_)
    · have hF := (if_pos c3).symm.trans hF
      have hok := Eq.mp (if_pos c3) hok
      refine sw_lin (off := 99) (tgt := 100) 10 hx hb dX7_fifteen_1 c3 (by decide) (by decide) ?_
      refine lv_aload_n hx hb dX7_fifteen_100 rfl (lv_at hl 0 rfl) ?_
      obtain ⟨c4, hok⟩ := hok
      refine g_Vi hx hb hml hown hg (c_X7_leastKey l dC dI cI cZ x hi _ c4) cs_X7_158 rfl rfl ⟨Nat.le_of_ble_eq_true rfl, Nat.le_of_ble_eq_true rfl⟩ hK hP hS (q0 := 0) rfl rfl rfl hl.1 rfl (Nat.le_of_ble_eq_true rfl) dX7_fifteen_101 ⟨Nat.zero_le _, Nat.zero_le _⟩ (fun H locs hP hS => ?_)
      refine lv_istore_n hx hb dX7_fifteen_104 rfl hl (by decide) rfl (fun ls hl => ?_)
      have hl : lv_has ls 4 [(3, _), (0, _), (1, _), (2, _)] := hl
      refine lv_iload_n hx hb dX7_fifteen_105 rfl (lv_at hl 0 rfl) ?_
      refine lv_if_ge (tgt := 111) hx hb dX7_fifteen_106 (by decide) (fun c5 => ?_) (fun c5 => ?_)
      · have hF := (if_pos c5).symm.trans hF
        have hok := Eq.mp (if_pos c5) hok
        refine lv_aload_n hx hb dX7_fifteen_111 rfl (lv_at hl 1 rfl) ?_
        refine ge_X7_v hx hb hg hown kf_X7_16 hK hP dX7_fifteen_112 ?_
        refine lv_iload_n hx hb dX7_fifteen_115 rfl (lv_at hl 2 rfl) ?_
        refine lv_iload_n hx hb dX7_fifteen_116 rfl (lv_at hl 0 rfl) ?_
        obtain ⟨c6, hok⟩ := hok
        refine ma_v hi hx hb hK hP hS c6 dX7_fifteen_117 (fun H locs hP hS => ?_)
        refine lv_goto (tgt := 293) hx hb dX7_fifteen_118 (by decide) ?_
        refine lv_aload_n hx hb dX7_fifteen_293 rfl (lv_at hl 1 rfl) ?_
        refine lv_iconst (v := 0) hx hb dX7_fifteen_294 (by decide) ?_
        refine g_Vv hx hb hml hown hg (c_X7_goesOn l dC dI cI cZ x hi _ _) cs_X7_154 rfl rfl ⟨Nat.le_of_ble_eq_true rfl, Nat.le_of_ble_eq_true rfl⟩ hK hP hS (q0 := 0) rfl rfl rfl hl.1 rfl (Nat.le_of_ble_eq_true rfl) dX7_fifteen_295 ⟨Nat.zero_le _, Nat.zero_le _⟩ (fun H locs hP hS => ?_)
        refine lv_iconst (v := 0) hx hb dX7_fifteen_298 (by decide) ?_
        have hF : (_, _) = F := hF
        exact g_iret hx hb hr hlocks hP hS dX7_fifteen_299 (g_p1 hF) (g_p2 hF)
      · have hF := (if_neg c5).symm.trans hF
        have hok := Eq.mp (if_neg c5) hok
        refine lv_iconst (v := 3) hx hb dX7_fifteen_109 (by decide) ?_
        have hF : (_, _) = F := hF
        exact g_iret hx hb hr hlocks hP hS dX7_fifteen_110 (g_p1 hF) (g_p2 hF)
    · have hF := (if_neg c3).symm.trans hF
      have hok := Eq.mp (if_neg c3) hok
      refine sw_case (v := 21) (fun c7 => ?_) (fun c7 => ?_)
      · have hF := (if_pos c7).symm.trans hF
        have hok := Eq.mp (if_pos c7) hok
        refine sw_lin (off := 120) (tgt := 121) 21 hx hb dX7_fifteen_1 c7 (by decide) (by decide) ?_
        refine lv_aload_n hx hb dX7_fifteen_121 rfl (lv_at hl 0 rfl) ?_
        refine ge_X7_v hx hb hg hown kf_X7_16 hK hP dX7_fifteen_122 ?_
        refine lv_bipush (v := 19) hx hb dX7_fifteen_125 (by decide) ?_
        refine lv_aload_n hx hb dX7_fifteen_127 rfl (lv_at hl 0 rfl) ?_
        refine ge_X7_v hx hb hg hown kf_X7_16 hK hP dX7_fifteen_128 ?_
        refine lv_iload_n hx hb dX7_fifteen_131 rfl (lv_at hl 1 rfl) ?_
        obtain ⟨c8, hok⟩ := hok
        refine ml_v hx hb hK hP c8 dX7_fifteen_132 ?_
        refine mac_v 19 (by decide) hi hx hb hK hP hS dX7_fifteen_133 (fun H locs hP hS => ?_)
        refine lv_goto (tgt := 293) hx hb dX7_fifteen_134 (by decide) ?_
        refine lv_aload_n hx hb dX7_fifteen_293 rfl (lv_at hl 0 rfl) ?_
        refine lv_iconst (v := 0) hx hb dX7_fifteen_294 (by decide) ?_
        refine g_Vv hx hb hml hown hg (c_X7_goesOn l dC dI cI cZ x hi _ _) cs_X7_154 rfl rfl ⟨Nat.le_of_ble_eq_true rfl, Nat.le_of_ble_eq_true rfl⟩ hK hP hS (q0 := 0) rfl rfl rfl hl.1 rfl (Nat.le_of_ble_eq_true rfl) dX7_fifteen_295 ⟨Nat.zero_le _, Nat.zero_le _⟩ (fun H locs hP hS => ?_)
        refine lv_iconst (v := 0) hx hb dX7_fifteen_298 (by decide) ?_
        have hF : (_, _) = F := hF
        exact g_iret hx hb hr hlocks hP hS dX7_fifteen_299 (g_p1 hF) (g_p2 hF)
      · have hF := (if_neg c7).symm.trans hF
        have hok := Eq.mp (if_neg c7) hok
        refine sw_case (v := 24) (fun c9 => ?_) (fun c9 => ?_)
        · have hF := (if_pos c9).symm.trans hF
          have hok := Eq.mp (if_pos c9) hok
          refine sw_lin (off := 136) (tgt := 137) 24 hx hb dX7_fifteen_1 c9 (by decide) (by decide) ?_
          refine lv_aload_n hx hb dX7_fifteen_137 rfl (lv_at hl 0 rfl) ?_
          refine ge_X7_v hx hb hg hown kf_X7_16 hK hP dX7_fifteen_138 ?_
          refine lv_bipush (v := 20) hx hb dX7_fifteen_141 (by decide) ?_
          refine lv_aload_n hx hb dX7_fifteen_143 rfl (lv_at hl 0 rfl) ?_
          refine ge_X7_v hx hb hg hown kf_X7_16 hK hP dX7_fifteen_144 ?_
          refine lv_iload_n hx hb dX7_fifteen_147 rfl (lv_at hl 1 rfl) ?_
          obtain ⟨c10, hok⟩ := hok
          refine ml_v hx hb hK hP c10 dX7_fifteen_148 ?_
          refine mac_v 20 (by decide) hi hx hb hK hP hS dX7_fifteen_149 (fun H locs hP hS => ?_)
          refine lv_goto (tgt := 293) hx hb dX7_fifteen_150 (by decide) ?_
          refine lv_aload_n hx hb dX7_fifteen_293 rfl (lv_at hl 0 rfl) ?_
          refine lv_iconst (v := 0) hx hb dX7_fifteen_294 (by decide) ?_
          refine g_Vv hx hb hml hown hg (c_X7_goesOn l dC dI cI cZ x hi _ _) cs_X7_154 rfl rfl ⟨Nat.le_of_ble_eq_true rfl, Nat.le_of_ble_eq_true rfl⟩ hK hP hS (q0 := 0) rfl rfl rfl hl.1 rfl (Nat.le_of_ble_eq_true rfl) dX7_fifteen_295 ⟨Nat.zero_le _, Nat.zero_le _⟩ (fun H locs hP hS => ?_)
          refine lv_iconst (v := 0) hx hb dX7_fifteen_298 (by decide) ?_
          have hF : (_, _) = F := hF
          exact g_iret hx hb hr hlocks hP hS dX7_fifteen_299 (g_p1 hF) (g_p2 hF)
        · have hF := (if_neg c9).symm.trans hF
          have hok := Eq.mp (if_neg c9) hok
          refine sw_case (v := 30) (fun c11 => ?_) (fun c11 => ?_)
          · have hF := (if_pos c11).symm.trans hF
            have hok := Eq.mp (if_pos c11) hok
            refine sw_lin (off := 152) (tgt := 153) 30 hx hb dX7_fifteen_1 c11 (by decide) (by decide) ?_
            refine lv_aload_n hx hb dX7_fifteen_153 rfl (lv_at hl 0 rfl) ?_
            refine ge_X7_v hx hb hg hown kf_X7_16 hK hP dX7_fifteen_154 ?_
            refine lv_bipush (v := 16) hx hb dX7_fifteen_157 (by decide) ?_
            refine lv_aload_n hx hb dX7_fifteen_159 rfl (lv_at hl 0 rfl) ?_
            refine ge_X7_v hx hb hg hown kf_X7_16 hK hP dX7_fifteen_160 ?_
            refine lv_bipush (v := 16) hx hb dX7_fifteen_163 (by decide) ?_
            refine mlc_v 16 (by decide) hx hb hK hP dX7_fifteen_165 ?_
            refine lv_aload_n hx hb dX7_fifteen_166 rfl (lv_at hl 0 rfl) ?_
            refine ge_X7_v hx hb hg hown kf_X7_16 hK hP dX7_fifteen_167 ?_
            refine lv_iload_n hx hb dX7_fifteen_170 rfl (lv_at hl 1 rfl) ?_
            obtain ⟨c12, hok⟩ := hok
            refine ml_v hx hb hK hP c12 dX7_fifteen_171 ?_
            refine lv_iadd hx hb dX7_fifteen_172 ?_
            refine lv_sipush (v := 4095) hx hb dX7_fifteen_173 (by decide) ?_
            refine lv_iand hx hb dX7_fifteen_176 ?_
            refine mac_v 16 (by decide) hi hx hb hK hP hS dX7_fifteen_177 (fun H locs hP hS => ?_)
            refine lv_goto (tgt := 293) hx hb dX7_fifteen_178 (by decide) ?_
            refine lv_aload_n hx hb dX7_fifteen_293 rfl (lv_at hl 0 rfl) ?_
            refine lv_iconst (v := 0) hx hb dX7_fifteen_294 (by decide) ?_
            refine g_Vv hx hb hml hown hg (c_X7_goesOn l dC dI cI cZ x hi _ _) cs_X7_154 rfl rfl ⟨Nat.le_of_ble_eq_true rfl, Nat.le_of_ble_eq_true rfl⟩ hK hP hS (q0 := 0) rfl rfl rfl hl.1 rfl (Nat.le_of_ble_eq_true rfl) dX7_fifteen_295 ⟨Nat.zero_le _, Nat.zero_le _⟩ (fun H locs hP hS => ?_)
            refine lv_iconst (v := 0) hx hb dX7_fifteen_298 (by decide) ?_
            have hF : (_, _) = F := hF
            exact g_iret hx hb hr hlocks hP hS dX7_fifteen_299 (g_p1 hF) (g_p2 hF)
          · have hF := (if_neg c11).symm.trans hF
            have hok := Eq.mp (if_neg c11) hok
            refine sw_case (v := 41) (fun c13 => ?_) (fun c13 => ?_)
            · have hF := (if_pos c13).symm.trans hF
              have hok := Eq.mp (if_pos c13) hok
              refine sw_lin (off := 180) (tgt := 181) 41 hx hb dX7_fifteen_1 c13 (by decide) (by decide) ?_
              refine lv_aload_n hx hb dX7_fifteen_181 rfl (lv_at hl 0 rfl) ?_
              refine ge_X7_v hx hb hg hown kf_X7_16 hK hP dX7_fifteen_182 ?_
              refine lv_bipush (v := 16) hx hb dX7_fifteen_185 (by decide) ?_
              refine lv_iconst (v := 5) hx hb dX7_fifteen_187 (by decide) ?_
              refine lv_aload_n hx hb dX7_fifteen_188 rfl (lv_at hl 0 rfl) ?_
              refine ge_X7_v hx hb hg hown kf_X7_16 hK hP dX7_fifteen_189 ?_
              refine lv_iload_n hx hb dX7_fifteen_192 rfl (lv_at hl 1 rfl) ?_
              obtain ⟨c14, hok⟩ := hok
              refine ml_v hx hb hK hP c14 dX7_fifteen_193 ?_
              refine lv_bipush (v := 15) hx hb dX7_fifteen_194 (by decide) ?_
              refine lv_iand hx hb dX7_fifteen_196 ?_
              refine lv_imul hx hb dX7_fifteen_197 ?_
              refine mac_v 16 (by decide) hi hx hb hK hP hS dX7_fifteen_198 (fun H locs hP hS => ?_)
              refine lv_goto (tgt := 293) hx hb dX7_fifteen_199 (by decide) ?_
              refine lv_aload_n hx hb dX7_fifteen_293 rfl (lv_at hl 0 rfl) ?_
              refine lv_iconst (v := 0) hx hb dX7_fifteen_294 (by decide) ?_
              refine g_Vv hx hb hml hown hg (c_X7_goesOn l dC dI cI cZ x hi _ _) cs_X7_154 rfl rfl ⟨Nat.le_of_ble_eq_true rfl, Nat.le_of_ble_eq_true rfl⟩ hK hP hS (q0 := 0) rfl rfl rfl hl.1 rfl (Nat.le_of_ble_eq_true rfl) dX7_fifteen_295 ⟨Nat.zero_le _, Nat.zero_le _⟩ (fun H locs hP hS => ?_)
              refine lv_iconst (v := 0) hx hb dX7_fifteen_298 (by decide) ?_
              have hF : (_, _) = F := hF
              exact g_iret hx hb hr hlocks hP hS dX7_fifteen_299 (g_p1 hF) (g_p2 hF)
            · have hF := (if_neg c13).symm.trans hF
              have hok := Eq.mp (if_neg c13) hok
              refine sw_case (v := 51) (fun c15 => ?_) (fun c15 => ?_)
              · have hF := (if_pos c15).symm.trans hF
                have hok := Eq.mp (if_pos c15) hok
                refine sw_lin (off := 201) (tgt := 202) 51 hx hb dX7_fifteen_1 c15 (by decide) (by decide) ?_
                refine lv_aload_n hx hb dX7_fifteen_202 rfl (lv_at hl 0 rfl) ?_
                refine lv_aload_n hx hb dX7_fifteen_203 rfl (lv_at hl 0 rfl) ?_
                refine ge_X7_v hx hb hg hown kf_X7_16 hK hP dX7_fifteen_204 ?_
                refine lv_bipush (v := 16) hx hb dX7_fifteen_207 (by decide) ?_
                refine mlc_v 16 (by decide) hx hb hK hP dX7_fifteen_209 ?_
                refine lv_aload_n hx hb dX7_fifteen_210 rfl (lv_at hl 0 rfl) ?_
                refine ge_X7_v hx hb hg hown kf_X7_16 hK hP dX7_fifteen_211 ?_
                refine lv_iload_n hx hb dX7_fifteen_214 rfl (lv_at hl 1 rfl) ?_
                obtain ⟨c16, hok⟩ := hok
                refine ml_v hx hb hK hP c16 dX7_fifteen_215 ?_
                refine lv_bipush (v := 100) hx hb dX7_fifteen_216 (by decide) ?_
                refine lv_idiv hx hb dX7_fifteen_218 (by decide) ?_
                refine g_Vv hx hb hml hown hg (c_X7_store l dC dI cI cZ x hi _ _ _) cs_X7_79 rfl rfl ⟨Nat.le_of_ble_eq_true rfl, Nat.le_of_ble_eq_true rfl⟩ hK hP hS (q0 := 0) rfl rfl rfl hl.1 rfl (Nat.le_of_ble_eq_true rfl) dX7_fifteen_219 ⟨Nat.zero_le _, Nat.zero_le _⟩ (fun H locs hP hS => ?_)
                refine lv_aload_n hx hb dX7_fifteen_222 rfl (lv_at hl 0 rfl) ?_
                refine lv_aload_n hx hb dX7_fifteen_223 rfl (lv_at hl 0 rfl) ?_
                refine ge_X7_v hx hb hg hown kf_X7_16 hK hP dX7_fifteen_224 ?_
                refine lv_bipush (v := 16) hx hb dX7_fifteen_227 (by decide) ?_
                refine mlc_v 16 (by decide) hx hb hK hP dX7_fifteen_229 ?_
                refine lv_iconst (v := 1) hx hb dX7_fifteen_230 (by decide) ?_
                refine lv_iadd hx hb dX7_fifteen_231 ?_
                refine lv_aload_n hx hb dX7_fifteen_232 rfl (lv_at hl 0 rfl) ?_
                refine ge_X7_v hx hb hg hown kf_X7_16 hK hP dX7_fifteen_233 ?_
                refine lv_iload_n hx hb dX7_fifteen_236 rfl (lv_at hl 1 rfl) ?_
                obtain ⟨c17, hok⟩ := hok
                refine ml_v hx hb hK hP c17 dX7_fifteen_237 ?_
                refine lv_bipush (v := 10) hx hb dX7_fifteen_238 (by decide) ?_
                refine lv_idiv hx hb dX7_fifteen_240 (by decide) ?_
                refine lv_bipush (v := 10) hx hb dX7_fifteen_241 (by decide) ?_
                refine lv_irem hx hb dX7_fifteen_243 (by decide) ?_
                refine g_Vv hx hb hml hown hg (c_X7_store l dC dI cI cZ x hi _ _ _) cs_X7_79 rfl rfl ⟨Nat.le_of_ble_eq_true rfl, Nat.le_of_ble_eq_true rfl⟩ hK hP hS (q0 := 0) rfl rfl rfl hl.1 rfl (Nat.le_of_ble_eq_true rfl) dX7_fifteen_244 ⟨Nat.zero_le _, Nat.zero_le _⟩ (fun H locs hP hS => ?_)
                refine lv_aload_n hx hb dX7_fifteen_247 rfl (lv_at hl 0 rfl) ?_
                refine lv_aload_n hx hb dX7_fifteen_248 rfl (lv_at hl 0 rfl) ?_
                refine ge_X7_v hx hb hg hown kf_X7_16 hK hP dX7_fifteen_249 ?_
                refine lv_bipush (v := 16) hx hb dX7_fifteen_252 (by decide) ?_
                refine mlc_v 16 (by decide) hx hb hK hP dX7_fifteen_254 ?_
                refine lv_iconst (v := 2) hx hb dX7_fifteen_255 (by decide) ?_
                refine lv_iadd hx hb dX7_fifteen_256 ?_
                refine lv_aload_n hx hb dX7_fifteen_257 rfl (lv_at hl 0 rfl) ?_
                refine ge_X7_v hx hb hg hown kf_X7_16 hK hP dX7_fifteen_258 ?_
                refine lv_iload_n hx hb dX7_fifteen_261 rfl (lv_at hl 1 rfl) ?_
                obtain ⟨c18, hok⟩ := hok
                refine ml_v hx hb hK hP c18 dX7_fifteen_262 ?_
                refine lv_bipush (v := 10) hx hb dX7_fifteen_263 (by decide) ?_
                refine lv_irem hx hb dX7_fifteen_265 (by decide) ?_
                refine g_Vv hx hb hml hown hg (c_X7_store l dC dI cI cZ x hi _ _ _) cs_X7_79 rfl rfl ⟨Nat.le_of_ble_eq_true rfl, Nat.le_of_ble_eq_true rfl⟩ hK hP hS (q0 := 0) rfl rfl rfl hl.1 rfl (Nat.le_of_ble_eq_true rfl) dX7_fifteen_266 ⟨Nat.zero_le _, Nat.zero_le _⟩ (fun H locs hP hS => ?_)
                refine lv_goto (tgt := 293) hx hb dX7_fifteen_269 (by decide) ?_
                refine lv_aload_n hx hb dX7_fifteen_293 rfl (lv_at hl 0 rfl) ?_
                refine lv_iconst (v := 0) hx hb dX7_fifteen_294 (by decide) ?_
                refine g_Vv hx hb hml hown hg (c_X7_goesOn l dC dI cI cZ x hi _ _) cs_X7_154 rfl rfl ⟨Nat.le_of_ble_eq_true rfl, Nat.le_of_ble_eq_true rfl⟩ hK hP hS (q0 := 0) rfl rfl rfl hl.1 rfl (Nat.le_of_ble_eq_true rfl) dX7_fifteen_295 ⟨Nat.zero_le _, Nat.zero_le _⟩ (fun H locs hP hS => ?_)
                refine lv_iconst (v := 0) hx hb dX7_fifteen_298 (by decide) ?_
                have hF : (_, _) = F := hF
                exact g_iret hx hb hr hlocks hP hS dX7_fifteen_299 (g_p1 hF) (g_p2 hF)
              · have hF := (if_neg c15).symm.trans hF
                have hok := Eq.mp (if_neg c15) hok
                refine sw_case (v := 85) (fun c19 => ?_) (fun c19 => ?_)
                · have hF := (if_pos c19).symm.trans hF
                  have hok := Eq.mp (if_pos c19) hok
                  refine sw_lin (off := 271) (tgt := 272) 85 hx hb dX7_fifteen_1 c19 (by decide) (by decide) ?_
                  refine lv_aload_n hx hb dX7_fifteen_272 rfl (lv_at hl 0 rfl) ?_
                  refine lv_iload_n hx hb dX7_fifteen_273 rfl (lv_at hl 1 rfl) ?_
                  refine lv_iload_n hx hb dX7_fifteen_274 rfl (lv_at hl 2 rfl) ?_
                  refine lv_bipush (v := 85) hx hb dX7_fifteen_275 (by decide) ?_
                  refine lv_icmp_ne (tgt := 284) hx hb dX7_fifteen_277 (by decide) (fun c20 => ?_) (fun c20 => ?_)
                  · exact absurd c20 (by rw [c19]; decide)
                  · refine lv_iconst (v := 1) hx hb dX7_fifteen_280 (by decide) ?_
                    refine lv_goto (tgt := 285) hx hb dX7_fifteen_281 (by decide) ?_
                    obtain ⟨c21, hok⟩ := hok
                    refine g_Vv hx hb hml hown hg (c_X7_rows l dC dI cI cZ x hi _ _ _ c21) cs_X7_161 rfl rfl ⟨Nat.le_of_ble_eq_true rfl, Nat.le_of_ble_eq_true rfl⟩ hK hP hS (q0 := 0) rfl rfl rfl hl.1 rfl (Nat.le_of_ble_eq_true rfl) dX7_fifteen_285 ⟨Nat.zero_le _, Nat.zero_le _⟩ (fun H locs hP hS => ?_)
                    refine lv_goto (tgt := 293) hx hb dX7_fifteen_288 (by decide) ?_
                    refine lv_aload_n hx hb dX7_fifteen_293 rfl (lv_at hl 0 rfl) ?_
                    refine lv_iconst (v := 0) hx hb dX7_fifteen_294 (by decide) ?_
                    refine g_Vv hx hb hml hown hg (c_X7_goesOn l dC dI cI cZ x hi _ _) cs_X7_154 rfl rfl ⟨Nat.le_of_ble_eq_true rfl, Nat.le_of_ble_eq_true rfl⟩ hK hP hS (q0 := 0) rfl rfl rfl hl.1 rfl (Nat.le_of_ble_eq_true rfl) dX7_fifteen_295 ⟨Nat.zero_le _, Nat.zero_le _⟩ (fun H locs hP hS => ?_)
                    refine lv_iconst (v := 0) hx hb dX7_fifteen_298 (by decide) ?_
                    have hF : (_, _) = F := hF
                    exact g_iret hx hb hr hlocks hP hS dX7_fifteen_299 (g_p1 hF) (g_p2 hF)
                · have hF := (if_neg c19).symm.trans hF
                  have hok := Eq.mp (if_neg c19) hok
                  refine sw_case (v := 101) (fun c22 => ?_) (fun c22 => ?_)
                  · have hF := (if_pos c22).symm.trans hF
                    have hok := Eq.mp (if_pos c22) hok
                    refine sw_lin (off := 271) (tgt := 272) 101 hx hb dX7_fifteen_1 c22 (by decide) (by decide) ?_
                    refine lv_aload_n hx hb dX7_fifteen_272 rfl (lv_at hl 0 rfl) ?_
                    refine lv_iload_n hx hb dX7_fifteen_273 rfl (lv_at hl 1 rfl) ?_
                    refine lv_iload_n hx hb dX7_fifteen_274 rfl (lv_at hl 2 rfl) ?_
                    refine lv_bipush (v := 85) hx hb dX7_fifteen_275 (by decide) ?_
                    refine lv_icmp_ne (tgt := 284) hx hb dX7_fifteen_277 (by decide) (fun c23 => ?_) (fun c23 => ?_)
                    · refine lv_iconst (v := 0) hx hb dX7_fifteen_284 (by decide) ?_
                      obtain ⟨c24, hok⟩ := hok
                      refine g_Vv hx hb hml hown hg (c_X7_rows l dC dI cI cZ x hi _ _ _ c24) cs_X7_161 rfl rfl ⟨Nat.le_of_ble_eq_true rfl, Nat.le_of_ble_eq_true rfl⟩ hK hP hS (q0 := 0) rfl rfl rfl hl.1 rfl (Nat.le_of_ble_eq_true rfl) dX7_fifteen_285 ⟨Nat.zero_le _, Nat.zero_le _⟩ (fun H locs hP hS => ?_)
                      refine lv_goto (tgt := 293) hx hb dX7_fifteen_288 (by decide) ?_
                      refine lv_aload_n hx hb dX7_fifteen_293 rfl (lv_at hl 0 rfl) ?_
                      refine lv_iconst (v := 0) hx hb dX7_fifteen_294 (by decide) ?_
                      refine g_Vv hx hb hml hown hg (c_X7_goesOn l dC dI cI cZ x hi _ _) cs_X7_154 rfl rfl ⟨Nat.le_of_ble_eq_true rfl, Nat.le_of_ble_eq_true rfl⟩ hK hP hS (q0 := 0) rfl rfl rfl hl.1 rfl (Nat.le_of_ble_eq_true rfl) dX7_fifteen_295 ⟨Nat.zero_le _, Nat.zero_le _⟩ (fun H locs hP hS => ?_)
                      refine lv_iconst (v := 0) hx hb dX7_fifteen_298 (by decide) ?_
                      have hF : (_, _) = F := hF
                      exact g_iret hx hb hr hlocks hP hS dX7_fifteen_299 (g_p1 hF) (g_p2 hF)
                    · exact absurd c23 (by rw [c22]; decide)
                  · have hF := (if_neg c22).symm.trans hF
                    have hok := Eq.mp (if_neg c22) hok
                    refine sw_ldf (tgt := 291) [7, 10, 21, 24, 30, 41, 51, 85, 101] hx hb dX7_fifteen_1 (List.forall_mem_cons.mpr ⟨c1, List.forall_mem_cons.mpr ⟨c3, List.forall_mem_cons.mpr ⟨c7, List.forall_mem_cons.mpr ⟨c9, List.forall_mem_cons.mpr ⟨c11, List.forall_mem_cons.mpr ⟨c13, List.forall_mem_cons.mpr ⟨c15, List.forall_mem_cons.mpr ⟨c19, List.forall_mem_cons.mpr ⟨c22, fun _ h => absurd h List.not_mem_nil⟩⟩⟩⟩⟩⟩⟩⟩⟩) (by decide) (by decide) ?_
                    refine lv_iconst (v := 1) hx hb dX7_fifteen_291 (by decide) ?_
                    have hF : (_, _) = F := hF
                    exact g_iret hx hb hr hlocks hP hS dX7_fifteen_292 (g_p1 hF) (g_p2 hF)
def f_X7_keyed (u : MS) (p0 : Int32) (p1 : Int32) : Int32 × MS :=
  if p1 = 158 then
    if (mq_down u (((mq_v u (p0).toNatClampNeg) &&& 15)).toNatClampNeg) = 1 then
      let r1 : MS := f_X7_goesOn u 1
      (0, r1)
    else
      let r2 : MS := f_X7_goesOn u 0
      (0, r2)
  else
    if p1 = 161 then
      if (mq_down u (((mq_v u (p0).toNatClampNeg) &&& 15)).toNatClampNeg) = 0 then
        let r3 : MS := f_X7_goesOn u 1
        (0, r3)
      else
        let r4 : MS := f_X7_goesOn u 0
        (0, r4)
    else
      (1, u)
def ok_X7_keyed (u : MS) (p0 : Int32) (p1 : Int32) : Prop :=
  if p1 = 158 then
    vp_in p0 22 ∧
    if (mq_down u (((mq_v u (p0).toNatClampNeg) &&& 15)).toNatClampNeg) = 1 then
      let r1 : MS := f_X7_goesOn u 1
      True
    else
      let r2 : MS := f_X7_goesOn u 0
      True
  else
    if p1 = 161 then
      vp_in p0 22 ∧
      if (mq_down u (((mq_v u (p0).toNatClampNeg) &&& 15)).toNatClampNeg) = 0 then
        let r3 : MS := f_X7_goesOn u 1
        True
      else
        let r4 : MS := f_X7_goesOn u 0
        True
    else
      True
set_option maxHeartbeats 4000000 in
set_option maxRecDepth 100000 in
theorem c_X7_keyed (l : Launch) (dC : Nat → ClassId) (dI : Nat → Nat → Nat) (cI cZ : ClassId) (x : Nat → Nat) (hi : g_inj 7 x) (u : MS) (p0 : Int32) (p1 : Int32) (hok : ok_X7_keyed u p0 p1) : g_Mi l yX7_keyed (.code yX7_keyed cX7_keyed 3 (some .int)) { frames := 1, cells := 0, slots := 0, locals := 21 } (dC, dI) vwCl (tysW cI cZ) (wM x cI cZ) (g_bA 7 x) u [.ref (x 0), .int p0, .int p1] (f_X7_keyed u p0 p1).1 (f_X7_keyed u p0 p1).2 := by
  refine Met.ofW (cc := cX7_keyed) (maxL := 3) (ret := (some .int)) (by decide) rfl ?_
  intro p e s m args below meth c s₁ B hml hv
  obtain ⟨rfl, hP, hK⟩ := hv
  have hx := B.exec
  have hb := B.bytes
  have hr := B.returns
  have hts := atoms_spec (ws := .code yX7_keyed cX7_keyed 3 (some .int) :: gtbl) B.pre
  have hg : ∀ w ∈ gtbl, w.before _ s = true := fun w h => hts w (List.mem_cons_of_mem _ h)
  have hown : s.vm.findClass RX7 = some m.cls := findClass_of_methodNamed B.named
  have hlocks := B.notSynchronized
  have hS : va_S (g_bA 7 x) s.heap s.heap [] := va_S.rf
  have hl := lv_entry ([.ref (x 0), .int p0, .int p1]) (n := 3) (Nat.le_of_ble_eq_true rfl)
  rw [lg_entry_eq]
  generalize (lg_sl ([.ref (x 0), .int p0, .int p1]) ++ List.replicate (3 - (lg_sl ([.ref (x 0), .int p0, .int p1])).length) Slot.unset).toArray = ls at hl ⊢
  have hl : lv_has ls 3 [(0, .ref (x 0)), (1, .int p0), (2, .int p1)] := hl
  obtain ⟨F, hF⟩ : ∃ F, f_X7_keyed u p0 p1 = F := ⟨_, rfl⟩
  rw [hF]
  refine lv_iload_n hx hb dX7_keyed_0 rfl (lv_at hl 2 rfl) ?_
  refine lv_sipush (v := 158) hx hb dX7_keyed_1 (by decide) ?_
  refine lv_icmp_eq (tgt := 16) hx hb dX7_keyed_4 (by decide) (fun c1 => ?_) (fun c1 => ?_)
  · have hF := (if_pos c1).symm.trans hF
    have hok := Eq.mp (if_pos c1) hok
    refine lv_aload_n hx hb dX7_keyed_16 rfl (lv_at hl 0 rfl) ?_
    refine lv_aload_n hx hb dX7_keyed_17 rfl (lv_at hl 0 rfl) ?_
    refine ge_X7_down hx hb hg hown kf_X7_22 hK hP dX7_keyed_18 ?_
    refine lv_aload_n hx hb dX7_keyed_21 rfl (lv_at hl 0 rfl) ?_
    refine ge_X7_v hx hb hg hown kf_X7_16 hK hP dX7_keyed_22 ?_
    refine lv_iload_n hx hb dX7_keyed_25 rfl (lv_at hl 1 rfl) ?_
    obtain ⟨c2, hok⟩ := hok
    refine ml_v hx hb hK hP c2 dX7_keyed_26 ?_
    refine lv_bipush (v := 15) hx hb dX7_keyed_27 (by decide) ?_
    refine lv_iand hx hb dX7_keyed_29 ?_
    refine ml_down hx hb hK hP (pk_andIn _ 4 rfl (by decide)) dX7_keyed_30 ?_
    refine lv_iload_n hx hb dX7_keyed_31 rfl (lv_at hl 2 rfl) ?_
    refine lv_sipush (v := 158) hx hb dX7_keyed_32 (by decide) ?_
    refine lv_icmp_ne (tgt := 42) hx hb dX7_keyed_35 (by decide) (fun c3 => ?_) (fun c3 => ?_)
    · exact absurd c3 (by rw [c1]; decide)
    · refine lv_iconst (v := 1) hx hb dX7_keyed_38 (by decide) ?_
      refine lv_goto (tgt := 43) hx hb dX7_keyed_39 (by decide) ?_
      refine lv_icmp_ne (tgt := 50) hx hb dX7_keyed_43 (by decide) (fun c4 => ?_) (fun c4 => ?_)
      · have hF := (if_neg c4).symm.trans hF
        have hok := Eq.mp (if_neg c4) hok
        refine lv_iconst (v := 0) hx hb dX7_keyed_50 (by decide) ?_
        refine g_Vv hx hb hml hown hg (c_X7_goesOn l dC dI cI cZ x hi _ _) cs_X7_154 rfl rfl ⟨Nat.le_of_ble_eq_true rfl, Nat.le_of_ble_eq_true rfl⟩ hK hP hS (q0 := 0) rfl rfl rfl hl.1 rfl (Nat.le_of_ble_eq_true rfl) dX7_keyed_51 ⟨Nat.zero_le _, Nat.zero_le _⟩ (fun H locs hP hS => ?_)
        refine lv_iconst (v := 0) hx hb dX7_keyed_54 (by decide) ?_
        have hF : (_, _) = F := hF
        exact g_iret hx hb hr hlocks hP hS dX7_keyed_55 (g_p1 hF) (g_p2 hF)
      · have hF := (if_pos c4).symm.trans hF
        have hok := Eq.mp (if_pos c4) hok
        refine lv_iconst (v := 1) hx hb dX7_keyed_46 (by decide) ?_
        refine lv_goto (tgt := 51) hx hb dX7_keyed_47 (by decide) ?_
        refine g_Vv hx hb hml hown hg (c_X7_goesOn l dC dI cI cZ x hi _ _) cs_X7_154 rfl rfl ⟨Nat.le_of_ble_eq_true rfl, Nat.le_of_ble_eq_true rfl⟩ hK hP hS (q0 := 0) rfl rfl rfl hl.1 rfl (Nat.le_of_ble_eq_true rfl) dX7_keyed_51 ⟨Nat.zero_le _, Nat.zero_le _⟩ (fun H locs hP hS => ?_)
        refine lv_iconst (v := 0) hx hb dX7_keyed_54 (by decide) ?_
        have hF : (_, _) = F := hF
        exact g_iret hx hb hr hlocks hP hS dX7_keyed_55 (g_p1 hF) (g_p2 hF)
  · have hF := (if_neg c1).symm.trans hF
    have hok := Eq.mp (if_neg c1) hok
    refine lv_iload_n hx hb dX7_keyed_7 rfl (lv_at hl 2 rfl) ?_
    refine lv_sipush (v := 161) hx hb dX7_keyed_8 (by decide) ?_
    refine lv_icmp_eq (tgt := 16) hx hb dX7_keyed_11 (by decide) (fun c5 => ?_) (fun c5 => ?_)
    · have hF := (if_pos c5).symm.trans hF
      have hok := Eq.mp (if_pos c5) hok
      refine lv_aload_n hx hb dX7_keyed_16 rfl (lv_at hl 0 rfl) ?_
      refine lv_aload_n hx hb dX7_keyed_17 rfl (lv_at hl 0 rfl) ?_
      refine ge_X7_down hx hb hg hown kf_X7_22 hK hP dX7_keyed_18 ?_
      refine lv_aload_n hx hb dX7_keyed_21 rfl (lv_at hl 0 rfl) ?_
      refine ge_X7_v hx hb hg hown kf_X7_16 hK hP dX7_keyed_22 ?_
      refine lv_iload_n hx hb dX7_keyed_25 rfl (lv_at hl 1 rfl) ?_
      obtain ⟨c6, hok⟩ := hok
      refine ml_v hx hb hK hP c6 dX7_keyed_26 ?_
      refine lv_bipush (v := 15) hx hb dX7_keyed_27 (by decide) ?_
      refine lv_iand hx hb dX7_keyed_29 ?_
      refine ml_down hx hb hK hP (pk_andIn _ 4 rfl (by decide)) dX7_keyed_30 ?_
      refine lv_iload_n hx hb dX7_keyed_31 rfl (lv_at hl 2 rfl) ?_
      refine lv_sipush (v := 158) hx hb dX7_keyed_32 (by decide) ?_
      refine lv_icmp_ne (tgt := 42) hx hb dX7_keyed_35 (by decide) (fun c7 => ?_) (fun c7 => ?_)
      · refine lv_iconst (v := 0) hx hb dX7_keyed_42 (by decide) ?_
        refine lv_icmp_ne (tgt := 50) hx hb dX7_keyed_43 (by decide) (fun c8 => ?_) (fun c8 => ?_)
        · have hF := (if_neg c8).symm.trans hF
          have hok := Eq.mp (if_neg c8) hok
          refine lv_iconst (v := 0) hx hb dX7_keyed_50 (by decide) ?_
          refine g_Vv hx hb hml hown hg (c_X7_goesOn l dC dI cI cZ x hi _ _) cs_X7_154 rfl rfl ⟨Nat.le_of_ble_eq_true rfl, Nat.le_of_ble_eq_true rfl⟩ hK hP hS (q0 := 0) rfl rfl rfl hl.1 rfl (Nat.le_of_ble_eq_true rfl) dX7_keyed_51 ⟨Nat.zero_le _, Nat.zero_le _⟩ (fun H locs hP hS => ?_)
          refine lv_iconst (v := 0) hx hb dX7_keyed_54 (by decide) ?_
          have hF : (_, _) = F := hF
          exact g_iret hx hb hr hlocks hP hS dX7_keyed_55 (g_p1 hF) (g_p2 hF)
        · have hF := (if_pos c8).symm.trans hF
          have hok := Eq.mp (if_pos c8) hok
          refine lv_iconst (v := 1) hx hb dX7_keyed_46 (by decide) ?_
          refine lv_goto (tgt := 51) hx hb dX7_keyed_47 (by decide) ?_
          refine g_Vv hx hb hml hown hg (c_X7_goesOn l dC dI cI cZ x hi _ _) cs_X7_154 rfl rfl ⟨Nat.le_of_ble_eq_true rfl, Nat.le_of_ble_eq_true rfl⟩ hK hP hS (q0 := 0) rfl rfl rfl hl.1 rfl (Nat.le_of_ble_eq_true rfl) dX7_keyed_51 ⟨Nat.zero_le _, Nat.zero_le _⟩ (fun H locs hP hS => ?_)
          refine lv_iconst (v := 0) hx hb dX7_keyed_54 (by decide) ?_
          have hF : (_, _) = F := hF
          exact g_iret hx hb hr hlocks hP hS dX7_keyed_55 (g_p1 hF) (g_p2 hF)
      · exact absurd c7 (by rw [c5]; decide)
    · have hF := (if_neg c5).symm.trans hF
      have hok := Eq.mp (if_neg c5) hok
      refine lv_iconst (v := 1) hx hb dX7_keyed_14 (by decide) ?_
      have hF : (_, _) = F := hF
      exact g_iret hx hb hr hlocks hP hS dX7_keyed_15 (g_p1 hF) (g_p2 hF)
def f_X7_compared (u : MS) (p0 : Int32) (p1 : Int32) (p2 : Int32) (p3 : Int32) : Int32 × MS :=
  if p2 = 0 then
    if (mq_v u (p0).toNatClampNeg) = (mq_v u (p1).toNatClampNeg) then
      if 1 = p3 then
        let r1 : MS := f_X7_goesOn u 1
        (0, r1)
      else
        let r2 : MS := f_X7_goesOn u 0
        (0, r2)
    else
      if 0 = p3 then
        let r3 : MS := f_X7_goesOn u 1
        (0, r3)
      else
        let r4 : MS := f_X7_goesOn u 0
        (0, r4)
  else
    (1, u)
def ok_X7_compared (u : MS) (p0 : Int32) (p1 : Int32) (p2 : Int32) (p3 : Int32) : Prop :=
  if p2 = 0 then
    vp_in p0 22 ∧
    vp_in p1 22 ∧
    if (mq_v u (p0).toNatClampNeg) = (mq_v u (p1).toNatClampNeg) then
      if 1 = p3 then
        let r1 : MS := f_X7_goesOn u 1
        True
      else
        let r2 : MS := f_X7_goesOn u 0
        True
    else
      if 0 = p3 then
        let r3 : MS := f_X7_goesOn u 1
        True
      else
        let r4 : MS := f_X7_goesOn u 0
        True
  else
    True
set_option maxHeartbeats 4000000 in
set_option maxRecDepth 100000 in
theorem c_X7_compared (l : Launch) (dC : Nat → ClassId) (dI : Nat → Nat → Nat) (cI cZ : ClassId) (x : Nat → Nat) (hi : g_inj 7 x) (u : MS) (p0 : Int32) (p1 : Int32) (p2 : Int32) (p3 : Int32) (hok : ok_X7_compared u p0 p1 p2 p3) : g_Mi l yX7_compared (.code yX7_compared cX7_compared 5 (some .int)) { frames := 1, cells := 0, slots := 0, locals := 21 } (dC, dI) vwCl (tysW cI cZ) (wM x cI cZ) (g_bA 7 x) u [.ref (x 0), .int p0, .int p1, .int p2, .int p3] (f_X7_compared u p0 p1 p2 p3).1 (f_X7_compared u p0 p1 p2 p3).2 := by
  refine Met.ofW (cc := cX7_compared) (maxL := 5) (ret := (some .int)) (by decide) rfl ?_
  intro p e s m args below meth c s₁ B hml hv
  obtain ⟨rfl, hP, hK⟩ := hv
  have hx := B.exec
  have hb := B.bytes
  have hr := B.returns
  have hts := atoms_spec (ws := .code yX7_compared cX7_compared 5 (some .int) :: gtbl) B.pre
  have hg : ∀ w ∈ gtbl, w.before _ s = true := fun w h => hts w (List.mem_cons_of_mem _ h)
  have hown : s.vm.findClass RX7 = some m.cls := findClass_of_methodNamed B.named
  have hlocks := B.notSynchronized
  have hS : va_S (g_bA 7 x) s.heap s.heap [] := va_S.rf
  have hl := lv_entry ([.ref (x 0), .int p0, .int p1, .int p2, .int p3]) (n := 5) (Nat.le_of_ble_eq_true rfl)
  rw [lg_entry_eq]
  generalize (lg_sl ([.ref (x 0), .int p0, .int p1, .int p2, .int p3]) ++ List.replicate (5 - (lg_sl ([.ref (x 0), .int p0, .int p1, .int p2, .int p3])).length) Slot.unset).toArray = ls at hl ⊢
  have hl : lv_has ls 5 [(0, .ref (x 0)), (1, .int p0), (2, .int p1), (3, .int p2), (4, .int p3)] := hl
  obtain ⟨F, hF⟩ : ∃ F, f_X7_compared u p0 p1 p2 p3 = F := ⟨_, rfl⟩
  rw [hF]
  refine lv_iload_n hx hb dX7_compared_0 rfl (lv_at hl 3 rfl) ?_
  refine lv_if_eq (tgt := 6) hx hb dX7_compared_1 (by decide) (fun c1 => ?_) (fun c1 => ?_)
  · have hF := (if_pos c1).symm.trans hF
    have hok := Eq.mp (if_pos c1) hok
    refine lv_aload_n hx hb dX7_compared_6 rfl (lv_at hl 0 rfl) ?_
    refine lv_aload_n hx hb dX7_compared_7 rfl (lv_at hl 0 rfl) ?_
    refine ge_X7_v hx hb hg hown kf_X7_16 hK hP dX7_compared_8 ?_
    refine lv_iload_n hx hb dX7_compared_11 rfl (lv_at hl 1 rfl) ?_
    obtain ⟨c2, hok⟩ := hok
    refine ml_v hx hb hK hP c2 dX7_compared_12 ?_
    refine lv_aload_n hx hb dX7_compared_13 rfl (lv_at hl 0 rfl) ?_
    refine ge_X7_v hx hb hg hown kf_X7_16 hK hP dX7_compared_14 ?_
    refine lv_iload_n hx hb dX7_compared_17 rfl (lv_at hl 2 rfl) ?_
    obtain ⟨c3, hok⟩ := hok
    refine ml_v hx hb hK hP c3 dX7_compared_18 ?_
    refine lv_icmp_ne (tgt := 26) hx hb dX7_compared_19 (by decide) (fun c4 => ?_) (fun c4 => ?_)
    · have hF := (if_neg c4).symm.trans hF
      have hok := Eq.mp (if_neg c4) hok
      refine lv_iconst (v := 0) hx hb dX7_compared_26 (by decide) ?_
      refine lv_iload hx hb dX7_compared_27 (lv_at hl 4 rfl) ?_
      refine lv_icmp_ne (tgt := 36) hx hb dX7_compared_29 (by decide) (fun c6 => ?_) (fun c6 => ?_)
      · have hF := (if_neg c6).symm.trans hF
        have hok := Eq.mp (if_neg c6) hok
        refine lv_iconst (v := 0) hx hb dX7_compared_36 (by decide) ?_
        refine g_Vv hx hb hml hown hg (c_X7_goesOn l dC dI cI cZ x hi _ _) cs_X7_154 rfl rfl ⟨Nat.le_of_ble_eq_true rfl, Nat.le_of_ble_eq_true rfl⟩ hK hP hS (q0 := 0) rfl rfl rfl hl.1 rfl (Nat.le_of_ble_eq_true rfl) dX7_compared_37 ⟨Nat.zero_le _, Nat.zero_le _⟩ (fun H locs hP hS => ?_)
        refine lv_iconst (v := 0) hx hb dX7_compared_40 (by decide) ?_
        have hF : (_, _) = F := hF
        exact g_iret hx hb hr hlocks hP hS dX7_compared_41 (g_p1 hF) (g_p2 hF)
      · have hF := (if_pos c6).symm.trans hF
        have hok := Eq.mp (if_pos c6) hok
        refine lv_iconst (v := 1) hx hb dX7_compared_32 (by decide) ?_
        refine lv_goto (tgt := 37) hx hb dX7_compared_33 (by decide) ?_
        refine g_Vv hx hb hml hown hg (c_X7_goesOn l dC dI cI cZ x hi _ _) cs_X7_154 rfl rfl ⟨Nat.le_of_ble_eq_true rfl, Nat.le_of_ble_eq_true rfl⟩ hK hP hS (q0 := 0) rfl rfl rfl hl.1 rfl (Nat.le_of_ble_eq_true rfl) dX7_compared_37 ⟨Nat.zero_le _, Nat.zero_le _⟩ (fun H locs hP hS => ?_)
        refine lv_iconst (v := 0) hx hb dX7_compared_40 (by decide) ?_
        have hF : (_, _) = F := hF
        exact g_iret hx hb hr hlocks hP hS dX7_compared_41 (g_p1 hF) (g_p2 hF)
    · have hF := (if_pos c4).symm.trans hF
      have hok := Eq.mp (if_pos c4) hok
      refine lv_iconst (v := 1) hx hb dX7_compared_22 (by decide) ?_
      refine lv_goto (tgt := 27) hx hb dX7_compared_23 (by decide) ?_
      refine lv_iload hx hb dX7_compared_27 (lv_at hl 4 rfl) ?_
      refine lv_icmp_ne (tgt := 36) hx hb dX7_compared_29 (by decide) (fun c5 => ?_) (fun c5 => ?_)
      · have hF := (if_neg c5).symm.trans hF
        have hok := Eq.mp (if_neg c5) hok
        refine lv_iconst (v := 0) hx hb dX7_compared_36 (by decide) ?_
        refine g_Vv hx hb hml hown hg (c_X7_goesOn l dC dI cI cZ x hi _ _) cs_X7_154 rfl rfl ⟨Nat.le_of_ble_eq_true rfl, Nat.le_of_ble_eq_true rfl⟩ hK hP hS (q0 := 0) rfl rfl rfl hl.1 rfl (Nat.le_of_ble_eq_true rfl) dX7_compared_37 ⟨Nat.zero_le _, Nat.zero_le _⟩ (fun H locs hP hS => ?_)
        refine lv_iconst (v := 0) hx hb dX7_compared_40 (by decide) ?_
        have hF : (_, _) = F := hF
        exact g_iret hx hb hr hlocks hP hS dX7_compared_41 (g_p1 hF) (g_p2 hF)
      · have hF := (if_pos c5).symm.trans hF
        have hok := Eq.mp (if_pos c5) hok
        refine lv_iconst (v := 1) hx hb dX7_compared_32 (by decide) ?_
        refine lv_goto (tgt := 37) hx hb dX7_compared_33 (by decide) ?_
        refine g_Vv hx hb hml hown hg (c_X7_goesOn l dC dI cI cZ x hi _ _) cs_X7_154 rfl rfl ⟨Nat.le_of_ble_eq_true rfl, Nat.le_of_ble_eq_true rfl⟩ hK hP hS (q0 := 0) rfl rfl rfl hl.1 rfl (Nat.le_of_ble_eq_true rfl) dX7_compared_37 ⟨Nat.zero_le _, Nat.zero_le _⟩ (fun H locs hP hS => ?_)
        refine lv_iconst (v := 0) hx hb dX7_compared_40 (by decide) ?_
        have hF : (_, _) = F := hF
        exact g_iret hx hb hr hlocks hP hS dX7_compared_41 (g_p1 hF) (g_p2 hF)
  · have hF := (if_neg c1).symm.trans hF
    have hok := Eq.mp (if_neg c1) hok
    refine lv_iconst (v := 1) hx hb dX7_compared_4 (by decide) ?_
    have hF : (_, _) = F := hF
    exact g_iret hx hb hr hlocks hP hS dX7_compared_5 (g_p1 hF) (g_p2 hF)
def f_X7_random (u : MS) (p0 : Int32) (p1 : Int32) : Int32 × MS :=
  let u1 : MS := ms_v u (upd (mq_v u) 21 ((((5 : Int32) * (mq_v u 21)) + 1) &&& 255))
  let u2 : MS := ms_v u1 (upd (mq_v u1) (p0).toNatClampNeg ((mq_v u1 21) &&& p1))
  (0, u2)
def ok_X7_random (u : MS) (p0 : Int32) (p1 : Int32) : Prop :=
  let u1 : MS := ms_v u (upd (mq_v u) 21 ((((5 : Int32) * (mq_v u 21)) + 1) &&& 255))
  vp_in p0 22 ∧
  let u2 : MS := ms_v u1 (upd (mq_v u1) (p0).toNatClampNeg ((mq_v u1 21) &&& p1))
  True
set_option maxHeartbeats 4000000 in
set_option maxRecDepth 100000 in
theorem c_X7_random (l : Launch) (dC : Nat → ClassId) (dI : Nat → Nat → Nat) (cI cZ : ClassId) (x : Nat → Nat) (hi : g_inj 7 x) (u : MS) (p0 : Int32) (p1 : Int32) (hok : ok_X7_random u p0 p1) : g_Mi l yX7_random (.code yX7_random cX7_random 3 (some .int)) { frames := 0, cells := 0, slots := 0, locals := 0 } (dC, dI) vwCl (tysW cI cZ) (wM x cI cZ) (g_bA 7 x) u [.ref (x 0), .int p0, .int p1] (f_X7_random u p0 p1).1 (f_X7_random u p0 p1).2 := by
  refine Met.ofW (cc := cX7_random) (maxL := 3) (ret := (some .int)) (by decide) rfl ?_
  intro p e s m args below meth c s₁ B hml hv
  obtain ⟨rfl, hP, hK⟩ := hv
  have hx := B.exec
  have hb := B.bytes
  have hr := B.returns
  have hts := atoms_spec (ws := .code yX7_random cX7_random 3 (some .int) :: gtbl) B.pre
  have hg : ∀ w ∈ gtbl, w.before _ s = true := fun w h => hts w (List.mem_cons_of_mem _ h)
  have hown : s.vm.findClass RX7 = some m.cls := findClass_of_methodNamed B.named
  have hlocks := B.notSynchronized
  have hS : va_S (g_bA 7 x) s.heap s.heap [] := va_S.rf
  have hl := lv_entry ([.ref (x 0), .int p0, .int p1]) (n := 3) (Nat.le_of_ble_eq_true rfl)
  rw [lg_entry_eq]
  generalize (lg_sl ([.ref (x 0), .int p0, .int p1]) ++ List.replicate (3 - (lg_sl ([.ref (x 0), .int p0, .int p1])).length) Slot.unset).toArray = ls at hl ⊢
  have hl : lv_has ls 3 [(0, .ref (x 0)), (1, .int p0), (2, .int p1)] := hl
  obtain ⟨F, hF⟩ : ∃ F, f_X7_random u p0 p1 = F := ⟨_, rfl⟩
  rw [hF]
  refine lv_aload_n hx hb dX7_random_0 rfl (lv_at hl 0 rfl) ?_
  refine ge_X7_v hx hb hg hown kf_X7_16 hK hP dX7_random_1 ?_
  refine lv_bipush (v := 21) hx hb dX7_random_4 (by decide) ?_
  refine lv_iconst (v := 5) hx hb dX7_random_6 (by decide) ?_
  refine lv_aload_n hx hb dX7_random_7 rfl (lv_at hl 0 rfl) ?_
  refine ge_X7_v hx hb hg hown kf_X7_16 hK hP dX7_random_8 ?_
  refine lv_bipush (v := 21) hx hb dX7_random_11 (by decide) ?_
  refine mlc_v 21 (by decide) hx hb hK hP dX7_random_13 ?_
  refine lv_imul hx hb dX7_random_14 ?_
  refine lv_iconst (v := 1) hx hb dX7_random_15 (by decide) ?_
  refine lv_iadd hx hb dX7_random_16 ?_
  refine lv_sipush (v := 255) hx hb dX7_random_17 (by decide) ?_
  refine lv_iand hx hb dX7_random_20 ?_
  refine mac_v 21 (by decide) hi hx hb hK hP hS dX7_random_21 (fun H locs hP hS => ?_)
  refine lv_aload_n hx hb dX7_random_22 rfl (lv_at hl 0 rfl) ?_
  refine ge_X7_v hx hb hg hown kf_X7_16 hK hP dX7_random_23 ?_
  refine lv_iload_n hx hb dX7_random_26 rfl (lv_at hl 1 rfl) ?_
  refine lv_aload_n hx hb dX7_random_27 rfl (lv_at hl 0 rfl) ?_
  refine ge_X7_v hx hb hg hown kf_X7_16 hK hP dX7_random_28 ?_
  refine lv_bipush (v := 21) hx hb dX7_random_31 (by decide) ?_
  refine mlc_v 21 (by decide) hx hb hK hP dX7_random_33 ?_
  refine lv_iload_n hx hb dX7_random_34 rfl (lv_at hl 2 rfl) ?_
  refine lv_iand hx hb dX7_random_35 ?_
  obtain ⟨c1, hok⟩ := hok
  refine ma_v hi hx hb hK hP hS c1 dX7_random_36 (fun H locs hP hS => ?_)
  refine lv_iconst (v := 0) hx hb dX7_random_37 (by decide) ?_
  have hF : (_, _) = F := hF
  exact g_iret hx hb hr hlocks hP hS dX7_random_38 (g_p1 hF) (g_p2 hF)
def f_X7_simple (u : MS) (p0 : Int32) : MS :=
  let t1 : Int32 := ((p0 >>> ((8 : Int32) &&& 31)) &&& 15)
  let t2 : Int32 := (p0 &&& 255)
  if (p0 >>> ((12 : Int32) &&& 31)) = 6 then
    let u3 : MS := ms_v u (upd (mq_v u) (t1).toNatClampNeg t2)
    let r4 : MS := f_X7_goesOn u3 0
    r4
  else
    if (p0 >>> ((12 : Int32) &&& 31)) = 7 then
      let u5 : MS := ms_v u (upd (mq_v u) (t1).toNatClampNeg (((mq_v u (t1).toNatClampNeg) + t2) &&& 255))
      let r6 : MS := f_X7_goesOn u5 0
      r6
    else
      if (p0 >>> ((12 : Int32) &&& 31)) = 10 then
        let u7 : MS := ms_v u (upd (mq_v u) 16 (p0 &&& 4095))
        let r8 : MS := f_X7_goesOn u7 0
        r8
      else
        if (p0 >>> ((12 : Int32) &&& 31)) = 12 then
          let r9 : Int32 × MS := f_X7_random u t1 t2
          let r10 : MS := f_X7_goesOn r9.2 0
          r10
        else
          let r11 : MS := f_X7_draw u t1 ((p0 >>> ((4 : Int32) &&& 31)) &&& 15) (p0 &&& 15)
          let r12 : MS := f_X7_goesOn r11 0
          r12
def ok_X7_simple (u : MS) (p0 : Int32) : Prop :=
  let t1 : Int32 := ((p0 >>> ((8 : Int32) &&& 31)) &&& 15)
  let t2 : Int32 := (p0 &&& 255)
  if (p0 >>> ((12 : Int32) &&& 31)) = 6 then
    vp_in t1 22 ∧
    let u3 : MS := ms_v u (upd (mq_v u) (t1).toNatClampNeg t2)
    let r4 : MS := f_X7_goesOn u3 0
    True
  else
    if (p0 >>> ((12 : Int32) &&& 31)) = 7 then
      vp_in t1 22 ∧
      vp_in t1 22 ∧
      let u5 : MS := ms_v u (upd (mq_v u) (t1).toNatClampNeg (((mq_v u (t1).toNatClampNeg) + t2) &&& 255))
      let r6 : MS := f_X7_goesOn u5 0
      True
    else
      if (p0 >>> ((12 : Int32) &&& 31)) = 10 then
        let u7 : MS := ms_v u (upd (mq_v u) 16 (p0 &&& 4095))
        let r8 : MS := f_X7_goesOn u7 0
        True
      else
        if (p0 >>> ((12 : Int32) &&& 31)) = 12 then
          ok_X7_random u t1 t2 ∧
          let r9 : Int32 × MS := f_X7_random u t1 t2
          let r10 : MS := f_X7_goesOn r9.2 0
          True
        else
          ok_X7_draw u t1 ((p0 >>> ((4 : Int32) &&& 31)) &&& 15) (p0 &&& 15) ∧
          let r11 : MS := f_X7_draw u t1 ((p0 >>> ((4 : Int32) &&& 31)) &&& 15) (p0 &&& 15)
          let r12 : MS := f_X7_goesOn r11 0
          True
set_option maxHeartbeats 4000000 in
set_option maxRecDepth 100000 in
theorem c_X7_simple (l : Launch) (dC : Nat → ClassId) (dI : Nat → Nat → Nat) (cI cZ : ClassId) (x : Nat → Nat) (hi : g_inj 7 x) (u : MS) (p0 : Int32) (hok : ok_X7_simple u p0) : g_Mv l yX7_simple (.code yX7_simple cX7_simple 4 none) { frames := 2, cells := 0, slots := 0, locals := 52 } (dC, dI) vwCl (tysW cI cZ) (wM x cI cZ) (g_bA 7 x) u [.ref (x 0), .int p0] (f_X7_simple u p0) := by
  refine Met.ofW (cc := cX7_simple) (maxL := 4) (ret := none) (by decide) rfl ?_
  intro p e s m args below meth c s₁ B hml hv
  obtain ⟨rfl, hP, hK⟩ := hv
  have hx := B.exec
  have hb := B.bytes
  have hr := B.returns
  have hts := atoms_spec (ws := .code yX7_simple cX7_simple 4 none :: gtbl) B.pre
  have hg : ∀ w ∈ gtbl, w.before _ s = true := fun w h => hts w (List.mem_cons_of_mem _ h)
  have hown : s.vm.findClass RX7 = some m.cls := findClass_of_methodNamed B.named
  have hlocks := B.notSynchronized
  have hS : va_S (g_bA 7 x) s.heap s.heap [] := va_S.rf
  have hl := lv_entry ([.ref (x 0), .int p0]) (n := 4) (Nat.le_of_ble_eq_true rfl)
  rw [lg_entry_eq]
  generalize (lg_sl ([.ref (x 0), .int p0]) ++ List.replicate (4 - (lg_sl ([.ref (x 0), .int p0])).length) Slot.unset).toArray = ls at hl ⊢
  have hl : lv_has ls 4 [(0, .ref (x 0)), (1, .int p0)] := hl
  obtain ⟨F, hF⟩ : ∃ F, f_X7_simple u p0 = F := ⟨_, rfl⟩
  rw [hF]
  refine lv_iload_n hx hb dX7_simple_0 rfl (lv_at hl 1 rfl) ?_
  refine lv_bipush (v := 8) hx hb dX7_simple_1 (by decide) ?_
  refine lv_ishr hx hb dX7_simple_3 ?_
  refine lv_bipush (v := 15) hx hb dX7_simple_4 (by decide) ?_
  refine lv_iand hx hb dX7_simple_6 ?_
  refine lv_istore_n hx hb dX7_simple_7 rfl hl (by decide) rfl (fun ls hl => ?_)
  have hl : lv_has ls 4 [(2, _), (0, _), (1, _)] := hl
  refine lv_iload_n hx hb dX7_simple_8 rfl (lv_at hl 2 rfl) ?_
  refine lv_sipush (v := 255) hx hb dX7_simple_9 (by decide) ?_
  refine lv_iand hx hb dX7_simple_12 ?_
  refine lv_istore_n hx hb dX7_simple_13 rfl hl (by decide) rfl (fun ls hl => ?_)
  have hl : lv_has ls 4 [(3, _), (2, _), (0, _), (1, _)] := hl
  refine lv_iload_n hx hb dX7_simple_14 rfl (lv_at hl 3 rfl) ?_
  refine lv_bipush (v := 12) hx hb dX7_simple_15 (by decide) ?_
  refine lv_ishr hx hb dX7_simple_17 ?_
  refine sw_case (v := 6) (fun c1 => ?_) (fun c1 => ?_)
  · have hF := (if_pos c1).symm.trans hF
    have hok := Eq.mp (if_pos c1) hok
    refine sw_in (off := 42) (tgt := 60) 6 hx hb dX7_simple_18 c1 (by decide) (by decide) ?_
    refine lv_aload_n hx hb dX7_simple_60 rfl (lv_at hl 2 rfl) ?_
    refine ge_X7_v hx hb hg hown kf_X7_16 hK hP dX7_simple_61 ?_
    refine lv_iload_n hx hb dX7_simple_64 rfl (lv_at hl 1 rfl) ?_
    refine lv_iload_n hx hb dX7_simple_65 rfl (lv_at hl 0 rfl) ?_
    obtain ⟨c2, hok⟩ := hok
    refine ma_v hi hx hb hK hP hS c2 dX7_simple_66 (fun H locs hP hS => ?_)
    refine lv_goto (tgt := 131) hx hb dX7_simple_67 (by decide) ?_
    refine lv_aload_n hx hb dX7_simple_131 rfl (lv_at hl 2 rfl) ?_
    refine lv_iconst (v := 0) hx hb dX7_simple_132 (by decide) ?_
    refine g_Vv hx hb hml hown hg (c_X7_goesOn l dC dI cI cZ x hi _ _) cs_X7_154 rfl rfl ⟨Nat.le_of_ble_eq_true rfl, Nat.le_of_ble_eq_true rfl⟩ hK hP hS (q0 := 0) rfl rfl rfl hl.1 rfl (Nat.le_of_ble_eq_true rfl) dX7_simple_133 ⟨Nat.zero_le _, Nat.zero_le _⟩ (fun H locs hP hS => ?_)
    exact g_vret hx hb hr hlocks hP hS dX7_simple_136 hF
  · have hF := (if_neg c1).symm.trans hF
    have hok := Eq.mp (if_neg c1) hok
    refine sw_case (v := 7) (fun c3 => ?_) (fun c3 => ?_)
    · have hF := (if_pos c3).symm.trans hF
      have hok := Eq.mp (if_pos c3) hok
      refine sw_in (off := 52) (tgt := 70) 7 hx hb dX7_simple_18 c3 (by decide) (by decide) ?_
      refine lv_aload_n hx hb dX7_simple_70 rfl (lv_at hl 2 rfl) ?_
      refine ge_X7_v hx hb hg hown kf_X7_16 hK hP dX7_simple_71 ?_
      refine lv_iload_n hx hb dX7_simple_74 rfl (lv_at hl 1 rfl) ?_
      refine lv_aload_n hx hb dX7_simple_75 rfl (lv_at hl 2 rfl) ?_
      refine ge_X7_v hx hb hg hown kf_X7_16 hK hP dX7_simple_76 ?_
      refine lv_iload_n hx hb dX7_simple_79 rfl (lv_at hl 1 rfl) ?_
      obtain ⟨c4, hok⟩ := hok
      refine ml_v hx hb hK hP c4 dX7_simple_80 ?_
      refine lv_iload_n hx hb dX7_simple_81 rfl (lv_at hl 0 rfl) ?_
      refine lv_iadd hx hb dX7_simple_82 ?_
      refine lv_sipush (v := 255) hx hb dX7_simple_83 (by decide) ?_
      refine lv_iand hx hb dX7_simple_86 ?_
      obtain ⟨c5, hok⟩ := hok
      refine ma_v hi hx hb hK hP hS c5 dX7_simple_87 (fun H locs hP hS => ?_)
      refine lv_goto (tgt := 131) hx hb dX7_simple_88 (by decide) ?_
      refine lv_aload_n hx hb dX7_simple_131 rfl (lv_at hl 2 rfl) ?_
      refine lv_iconst (v := 0) hx hb dX7_simple_132 (by decide) ?_
      refine g_Vv hx hb hml hown hg (c_X7_goesOn l dC dI cI cZ x hi _ _) cs_X7_154 rfl rfl ⟨Nat.le_of_ble_eq_true rfl, Nat.le_of_ble_eq_true rfl⟩ hK hP hS (q0 := 0) rfl rfl rfl hl.1 rfl (Nat.le_of_ble_eq_true rfl) dX7_simple_133 ⟨Nat.zero_le _, Nat.zero_le _⟩ (fun H locs hP hS => ?_)
      exact g_vret hx hb hr hlocks hP hS dX7_simple_136 hF
    · have hF := (if_neg c3).symm.trans hF
      have hok := Eq.mp (if_neg c3) hok
      refine sw_case (v := 10) (fun c6 => ?_) (fun c6 => ?_)
      · have hF := (if_pos c6).symm.trans hF
        have hok := Eq.mp (if_pos c6) hok
        refine sw_in (off := 73) (tgt := 91) 10 hx hb dX7_simple_18 c6 (by decide) (by decide) ?_
        refine lv_aload_n hx hb dX7_simple_91 rfl (lv_at hl 2 rfl) ?_
        refine ge_X7_v hx hb hg hown kf_X7_16 hK hP dX7_simple_92 ?_
        refine lv_bipush (v := 16) hx hb dX7_simple_95 (by decide) ?_
        refine lv_iload_n hx hb dX7_simple_97 rfl (lv_at hl 3 rfl) ?_
        refine lv_sipush (v := 4095) hx hb dX7_simple_98 (by decide) ?_
        refine lv_iand hx hb dX7_simple_101 ?_
        refine mac_v 16 (by decide) hi hx hb hK hP hS dX7_simple_102 (fun H locs hP hS => ?_)
        refine lv_goto (tgt := 131) hx hb dX7_simple_103 (by decide) ?_
        refine lv_aload_n hx hb dX7_simple_131 rfl (lv_at hl 2 rfl) ?_
        refine lv_iconst (v := 0) hx hb dX7_simple_132 (by decide) ?_
        refine g_Vv hx hb hml hown hg (c_X7_goesOn l dC dI cI cZ x hi _ _) cs_X7_154 rfl rfl ⟨Nat.le_of_ble_eq_true rfl, Nat.le_of_ble_eq_true rfl⟩ hK hP hS (q0 := 0) rfl rfl rfl hl.1 rfl (Nat.le_of_ble_eq_true rfl) dX7_simple_133 ⟨Nat.zero_le _, Nat.zero_le _⟩ (fun H locs hP hS => ?_)
        exact g_vret hx hb hr hlocks hP hS dX7_simple_136 hF
      · have hF := (if_neg c6).symm.trans hF
        have hok := Eq.mp (if_neg c6) hok
        refine sw_case (v := 12) (fun c7 => ?_) (fun c7 => ?_)
        · have hF := (if_pos c7).symm.trans hF
          have hok := Eq.mp (if_pos c7) hok
          refine sw_in (off := 88) (tgt := 106) 12 hx hb dX7_simple_18 c7 (by decide) (by decide) ?_
          refine lv_aload_n hx hb dX7_simple_106 rfl (lv_at hl 2 rfl) ?_
          refine lv_iload_n hx hb dX7_simple_107 rfl (lv_at hl 1 rfl) ?_
          refine lv_iload_n hx hb dX7_simple_108 rfl (lv_at hl 0 rfl) ?_
          obtain ⟨c8, hok⟩ := hok
          refine g_Vi hx hb hml hown hg (c_X7_random l dC dI cI cZ x hi _ _ _ c8) cs_X7_189 rfl rfl ⟨Nat.le_of_ble_eq_true rfl, Nat.le_of_ble_eq_true rfl⟩ hK hP hS (q0 := 0) rfl rfl rfl hl.1 rfl (Nat.le_of_ble_eq_true rfl) dX7_simple_109 ⟨Nat.zero_le _, Nat.zero_le _⟩ (fun H locs hP hS => ?_)
          refine lv_pop hx hb dX7_simple_112 rfl ?_
          refine lv_goto (tgt := 131) hx hb dX7_simple_113 (by decide) ?_
          refine lv_aload_n hx hb dX7_simple_131 rfl (lv_at hl 2 rfl) ?_
          refine lv_iconst (v := 0) hx hb dX7_simple_132 (by decide) ?_
          refine g_Vv hx hb hml hown hg (c_X7_goesOn l dC dI cI cZ x hi _ _) cs_X7_154 rfl rfl ⟨Nat.le_of_ble_eq_true rfl, Nat.le_of_ble_eq_true rfl⟩ hK hP hS (q0 := 0) rfl rfl rfl hl.1 rfl (Nat.le_of_ble_eq_true rfl) dX7_simple_133 ⟨Nat.zero_le _, Nat.zero_le _⟩ (fun H locs hP hS => ?_)
          exact g_vret hx hb hr hlocks hP hS dX7_simple_136 hF
        · have hF := (if_neg c7).symm.trans hF
          have hok := Eq.mp (if_neg c7) hok
          refine sw_def (tgt := 116) [6, 7, 10, 12] hx hb dX7_simple_18 (List.forall_mem_cons.mpr ⟨c1, List.forall_mem_cons.mpr ⟨c3, List.forall_mem_cons.mpr ⟨c6, List.forall_mem_cons.mpr ⟨c7, fun _ h => absurd h List.not_mem_nil⟩⟩⟩⟩) (by decide) (by decide) ?_
          refine lv_aload_n hx hb dX7_simple_116 rfl (lv_at hl 2 rfl) ?_
          refine lv_iload_n hx hb dX7_simple_117 rfl (lv_at hl 1 rfl) ?_
          refine lv_iload_n hx hb dX7_simple_118 rfl (lv_at hl 3 rfl) ?_
          refine lv_iconst (v := 4) hx hb dX7_simple_119 (by decide) ?_
          refine lv_ishr hx hb dX7_simple_120 ?_
          refine lv_bipush (v := 15) hx hb dX7_simple_121 (by decide) ?_
          refine lv_iand hx hb dX7_simple_123 ?_
          refine lv_iload_n hx hb dX7_simple_124 rfl (lv_at hl 3 rfl) ?_
          refine lv_bipush (v := 15) hx hb dX7_simple_125 (by decide) ?_
          refine lv_iand hx hb dX7_simple_127 ?_
          obtain ⟨c9, hok⟩ := hok
          refine g_Vv hx hb hml hown hg (c_X7_draw l dC dI cI cZ x hi _ _ _ _ c9) cs_X7_192 rfl rfl ⟨Nat.le_of_ble_eq_true rfl, Nat.le_of_ble_eq_true rfl⟩ hK hP hS (q0 := 0) rfl rfl rfl hl.1 rfl (Nat.le_of_ble_eq_true rfl) dX7_simple_128 ⟨Nat.zero_le _, Nat.zero_le _⟩ (fun H locs hP hS => ?_)
          refine lv_aload_n hx hb dX7_simple_131 rfl (lv_at hl 2 rfl) ?_
          refine lv_iconst (v := 0) hx hb dX7_simple_132 (by decide) ?_
          refine g_Vv hx hb hml hown hg (c_X7_goesOn l dC dI cI cZ x hi _ _) cs_X7_154 rfl rfl ⟨Nat.le_of_ble_eq_true rfl, Nat.le_of_ble_eq_true rfl⟩ hK hP hS (q0 := 0) rfl rfl rfl hl.1 rfl (Nat.le_of_ble_eq_true rfl) dX7_simple_133 ⟨Nat.zero_le _, Nat.zero_le _⟩ (fun H locs hP hS => ?_)
          exact g_vret hx hb hr hlocks hP hS dX7_simple_136 hF
def f_X7_step (u : MS) : Int32 × MS :=
  let t1 : Int32 := (((f_X7_byteAt u (mq_v u 17)) <<< ((8 : Int32) &&& 31)) ||| (f_X7_byteAt u ((mq_v u 17) + 1)))
  let t2 : Int32 := ((t1 >>> ((8 : Int32) &&& 31)) &&& 15)
  let t3 : Int32 := ((t1 >>> ((4 : Int32) &&& 31)) &&& 15)
  let t4 : Int32 := (t1 &&& 15)
  let t5 : Int32 := (t1 &&& 255)
  let t6 : Int32 := (t1 &&& 4095)
  if (t1 >>> ((12 : Int32) &&& 31)) = 0 then
    let r7 : Int32 × MS := f_X7_zero u t1
    (r7.1, r7.2)
  else
    if (t1 >>> ((12 : Int32) &&& 31)) = 1 then
      let u8 : MS := ms_v u (upd (mq_v u) 17 t6)
      (0, u8)
    else
      if (t1 >>> ((12 : Int32) &&& 31)) = 2 then
        let r9 : Int32 × MS := f_X7_call u t6
        (r9.1, r9.2)
      else
        if (t1 >>> ((12 : Int32) &&& 31)) = 3 then
          if (mq_v u (t2).toNatClampNeg) = t5 then
            let r10 : MS := f_X7_goesOn u 1
            (0, r10)
          else
            let r11 : MS := f_X7_goesOn u 0
            (0, r11)
        else
          if (t1 >>> ((12 : Int32) &&& 31)) = 4 then
            if (mq_v u (t2).toNatClampNeg) = t5 then
              let r12 : MS := f_X7_goesOn u 0
              (0, r12)
            else
              let r13 : MS := f_X7_goesOn u 1
              (0, r13)
          else
            if (t1 >>> ((12 : Int32) &&& 31)) = 5 then
              let r14 : Int32 × MS := f_X7_compared u t2 t3 t4 1
              (r14.1, r14.2)
            else
              if (t1 >>> ((12 : Int32) &&& 31)) = 8 then
                let r15 : Int32 × MS := f_X7_eight u t2 t3 t4
                (r15.1, r15.2)
              else
                if (t1 >>> ((12 : Int32) &&& 31)) = 9 then
                  let r16 : Int32 × MS := f_X7_compared u t2 t3 t4 0
                  (r16.1, r16.2)
                else
                  if (t1 >>> ((12 : Int32) &&& 31)) = 11 then
                    let u17 : MS := ms_v u (upd (mq_v u) 17 ((t6 + (mq_v u 0)) &&& 4095))
                    (0, u17)
                  else
                    if (t1 >>> ((12 : Int32) &&& 31)) = 14 then
                      let r18 : Int32 × MS := f_X7_keyed u t2 t5
                      (r18.1, r18.2)
                    else
                      if (t1 >>> ((12 : Int32) &&& 31)) = 15 then
                        let r19 : Int32 × MS := f_X7_fifteen u t2 t5
                        (r19.1, r19.2)
                      else
                        let r20 : MS := f_X7_simple u t1
                        (0, r20)
def ok_X7_step (u : MS) : Prop :=
  let t1 : Int32 := (((f_X7_byteAt u (mq_v u 17)) <<< ((8 : Int32) &&& 31)) ||| (f_X7_byteAt u ((mq_v u 17) + 1)))
  let t2 : Int32 := ((t1 >>> ((8 : Int32) &&& 31)) &&& 15)
  let t3 : Int32 := ((t1 >>> ((4 : Int32) &&& 31)) &&& 15)
  let t4 : Int32 := (t1 &&& 15)
  let t5 : Int32 := (t1 &&& 255)
  let t6 : Int32 := (t1 &&& 4095)
  if (t1 >>> ((12 : Int32) &&& 31)) = 0 then
    ok_X7_zero u t1 ∧
    let r7 : Int32 × MS := f_X7_zero u t1
    True
  else
    if (t1 >>> ((12 : Int32) &&& 31)) = 1 then
      let u8 : MS := ms_v u (upd (mq_v u) 17 t6)
      True
    else
      if (t1 >>> ((12 : Int32) &&& 31)) = 2 then
        ok_X7_call u t6 ∧
        let r9 : Int32 × MS := f_X7_call u t6
        True
      else
        if (t1 >>> ((12 : Int32) &&& 31)) = 3 then
          vp_in t2 22 ∧
          if (mq_v u (t2).toNatClampNeg) = t5 then
            let r10 : MS := f_X7_goesOn u 1
            True
          else
            let r11 : MS := f_X7_goesOn u 0
            True
        else
          if (t1 >>> ((12 : Int32) &&& 31)) = 4 then
            vp_in t2 22 ∧
            if (mq_v u (t2).toNatClampNeg) = t5 then
              let r12 : MS := f_X7_goesOn u 0
              True
            else
              let r13 : MS := f_X7_goesOn u 1
              True
          else
            if (t1 >>> ((12 : Int32) &&& 31)) = 5 then
              ok_X7_compared u t2 t3 t4 1 ∧
              let r14 : Int32 × MS := f_X7_compared u t2 t3 t4 1
              True
            else
              if (t1 >>> ((12 : Int32) &&& 31)) = 8 then
                ok_X7_eight u t2 t3 t4 ∧
                let r15 : Int32 × MS := f_X7_eight u t2 t3 t4
                True
              else
                if (t1 >>> ((12 : Int32) &&& 31)) = 9 then
                  ok_X7_compared u t2 t3 t4 0 ∧
                  let r16 : Int32 × MS := f_X7_compared u t2 t3 t4 0
                  True
                else
                  if (t1 >>> ((12 : Int32) &&& 31)) = 11 then
                    let u17 : MS := ms_v u (upd (mq_v u) 17 ((t6 + (mq_v u 0)) &&& 4095))
                    True
                  else
                    if (t1 >>> ((12 : Int32) &&& 31)) = 14 then
                      ok_X7_keyed u t2 t5 ∧
                      let r18 : Int32 × MS := f_X7_keyed u t2 t5
                      True
                    else
                      if (t1 >>> ((12 : Int32) &&& 31)) = 15 then
                        ok_X7_fifteen u t2 t5 ∧
                        let r19 : Int32 × MS := f_X7_fifteen u t2 t5
                        True
                      else
                        ok_X7_simple u t1 ∧
                        let r20 : MS := f_X7_simple u t1
                        True
set_option maxHeartbeats 4000000 in
set_option maxRecDepth 100000 in
theorem c_X7_step (l : Launch) (dC : Nat → ClassId) (dI : Nat → Nat → Nat) (cI cZ : ClassId) (x : Nat → Nat) (hi : g_inj 7 x) (u : MS) (hok : ok_X7_step u) : g_Mi l yX7_step (.code yX7_step cX7_step 7 (some .int)) { frames := 3, cells := 0, slots := 0, locals := 75 } (dC, dI) vwCl (tysW cI cZ) (wM x cI cZ) (g_bA 7 x) u [.ref (x 0)] (f_X7_step u).1 (f_X7_step u).2 := by
  refine Met.ofW (cc := cX7_step) (maxL := 7) (ret := (some .int)) (by decide) rfl ?_
  intro p e s m args below meth c s₁ B hml hv
  obtain ⟨rfl, hP, hK⟩ := hv
  have hx := B.exec
  have hb := B.bytes
  have hr := B.returns
  have hts := atoms_spec (ws := .code yX7_step cX7_step 7 (some .int) :: gtbl) B.pre
  have hg : ∀ w ∈ gtbl, w.before _ s = true := fun w h => hts w (List.mem_cons_of_mem _ h)
  have hown : s.vm.findClass RX7 = some m.cls := findClass_of_methodNamed B.named
  have hlocks := B.notSynchronized
  have hS : va_S (g_bA 7 x) s.heap s.heap [] := va_S.rf
  have hl := lv_entry ([.ref (x 0)]) (n := 7) (Nat.le_of_ble_eq_true rfl)
  rw [lg_entry_eq]
  generalize (lg_sl ([.ref (x 0)]) ++ List.replicate (7 - (lg_sl ([.ref (x 0)])).length) Slot.unset).toArray = ls at hl ⊢
  have hl : lv_has ls 7 [(0, .ref (x 0))] := hl
  obtain ⟨F, hF⟩ : ∃ F, f_X7_step u = F := ⟨_, rfl⟩
  rw [hF]
  refine lv_aload_n hx hb dX7_step_0 rfl (lv_at hl 0 rfl) ?_
  refine lv_aload_n hx hb dX7_step_1 rfl (lv_at hl 0 rfl) ?_
  refine ge_X7_v hx hb hg hown kf_X7_16 hK hP dX7_step_2 ?_
  refine lv_bipush (v := 17) hx hb dX7_step_5 (by decide) ?_
  refine mlc_v 17 (by decide) hx hb hK hP dX7_step_7 ?_
  refine g_Vi hx hb hml hown hg (c_X7_byteAt l dC dI cI cZ x hi _ _) cs_X7_43 rfl rfl ⟨Nat.le_of_ble_eq_true rfl, Nat.le_of_ble_eq_true rfl⟩ hK hP hS (q0 := 0) rfl rfl rfl hl.1 rfl (Nat.le_of_ble_eq_true rfl) dX7_step_8 ⟨Nat.zero_le _, Nat.zero_le _⟩ (fun H locs hP hS => ?_)
  refine lv_bipush (v := 8) hx hb dX7_step_11 (by decide) ?_
  refine lv_ishl hx hb dX7_step_13 ?_
  refine lv_aload_n hx hb dX7_step_14 rfl (lv_at hl 0 rfl) ?_
  refine lv_aload_n hx hb dX7_step_15 rfl (lv_at hl 0 rfl) ?_
  refine ge_X7_v hx hb hg hown kf_X7_16 hK hP dX7_step_16 ?_
  refine lv_bipush (v := 17) hx hb dX7_step_19 (by decide) ?_
  refine mlc_v 17 (by decide) hx hb hK hP dX7_step_21 ?_
  refine lv_iconst (v := 1) hx hb dX7_step_22 (by decide) ?_
  refine lv_iadd hx hb dX7_step_23 ?_
  refine g_Vi hx hb hml hown hg (c_X7_byteAt l dC dI cI cZ x hi _ _) cs_X7_43 rfl rfl ⟨Nat.le_of_ble_eq_true rfl, Nat.le_of_ble_eq_true rfl⟩ hK hP hS (q0 := 0) rfl rfl rfl hl.1 rfl (Nat.le_of_ble_eq_true rfl) dX7_step_24 ⟨Nat.zero_le _, Nat.zero_le _⟩ (fun H locs hP hS => ?_)
  refine lv_ior hx hb dX7_step_27 ?_
  refine lv_istore_n hx hb dX7_step_28 rfl hl (by decide) rfl (fun ls hl => ?_)
  have hl : lv_has ls 7 [(1, _), (0, _)] := hl
  refine lv_iload_n hx hb dX7_step_29 rfl (lv_at hl 0 rfl) ?_
  refine lv_bipush (v := 8) hx hb dX7_step_30 (by decide) ?_
  refine lv_ishr hx hb dX7_step_32 ?_
  refine lv_bipush (v := 15) hx hb dX7_step_33 (by decide) ?_
  refine lv_iand hx hb dX7_step_35 ?_
  refine lv_istore_n hx hb dX7_step_36 rfl hl (by decide) rfl (fun ls hl => ?_)
  have hl : lv_has ls 7 [(2, _), (1, _), (0, _)] := hl
  refine lv_iload_n hx hb dX7_step_37 rfl (lv_at hl 1 rfl) ?_
  refine lv_iconst (v := 4) hx hb dX7_step_38 (by decide) ?_
  refine lv_ishr hx hb dX7_step_39 ?_
  refine lv_bipush (v := 15) hx hb dX7_step_40 (by decide) ?_
  refine lv_iand hx hb dX7_step_42 ?_
  refine lv_istore_n hx hb dX7_step_43 rfl hl (by decide) rfl (fun ls hl => ?_)
  have hl : lv_has ls 7 [(3, _), (2, _), (1, _), (0, _)] := hl
  refine lv_iload_n hx hb dX7_step_44 rfl (lv_at hl 2 rfl) ?_
  refine lv_bipush (v := 15) hx hb dX7_step_45 (by decide) ?_
  refine lv_iand hx hb dX7_step_47 ?_
  refine lv_istore hx hb dX7_step_48 hl (by decide) rfl (fun ls hl => ?_)
  have hl : lv_has ls 7 [(4, _), (3, _), (2, _), (1, _), (0, _)] := hl
  refine lv_iload_n hx hb dX7_step_50 rfl (lv_at hl 3 rfl) ?_
  refine lv_sipush (v := 255) hx hb dX7_step_51 (by decide) ?_
  refine lv_iand hx hb dX7_step_54 ?_
  refine lv_istore hx hb dX7_step_55 hl (by decide) rfl (fun ls hl => ?_)
  have hl : lv_has ls 7 [(5, _), (4, _), (3, _), (2, _), (1, _), (0, _)] := hl
  refine lv_iload_n hx hb dX7_step_57 rfl (lv_at hl 4 rfl) ?_
  refine lv_sipush (v := 4095) hx hb dX7_step_58 (by decide) ?_
  refine lv_iand hx hb dX7_step_61 ?_
  refine lv_istore hx hb dX7_step_62 hl (by decide) rfl (fun ls hl => ?_)
  have hl : lv_has ls 7 [(6, _), (5, _), (4, _), (3, _), (2, _), (1, _), (0, _)] := hl
  refine lv_iload_n hx hb dX7_step_64 rfl (lv_at hl 5 rfl) ?_
  refine lv_bipush (v := 12) hx hb dX7_step_65 (by decide) ?_
  refine lv_ishr hx hb dX7_step_67 ?_
  refine sw_case (v := 0) (fun c1 => ?_) (fun c1 => ?_)
  · have hF := (if_pos c1).symm.trans hF
    have hok := Eq.mp (if_pos c1) hok
    refine sw_in (off := 80) (tgt := 148) 0 hx hb dX7_step_68 c1 (by decide) (by decide) ?_
    refine lv_aload_n hx hb dX7_step_148 rfl (lv_at hl 6 rfl) ?_
    refine lv_iload_n hx hb dX7_step_149 rfl (lv_at hl 5 rfl) ?_
    obtain ⟨c2, hok⟩ := hok
    refine g_Vi hx hb hml hown hg (c_X7_zero l dC dI cI cZ x hi _ _ c2) cs_X7_165 rfl rfl ⟨Nat.le_of_ble_eq_true rfl, Nat.le_of_ble_eq_true rfl⟩ hK hP hS (q0 := 0) rfl rfl rfl hl.1 rfl (Nat.le_of_ble_eq_true rfl) dX7_step_150 ⟨Nat.zero_le _, Nat.zero_le _⟩ (fun H locs hP hS => ?_)
    have hF : (_, _) = F := hF
    exact g_iret hx hb hr hlocks hP hS dX7_step_153 (g_p1 hF) (g_p2 hF)
  · have hF := (if_neg c1).symm.trans hF
    have hok := Eq.mp (if_neg c1) hok
    refine sw_case (v := 1) (fun c3 => ?_) (fun c3 => ?_)
    · have hF := (if_pos c3).symm.trans hF
      have hok := Eq.mp (if_pos c3) hok
      refine sw_in (off := 86) (tgt := 154) 1 hx hb dX7_step_68 c3 (by decide) (by decide) ?_
      refine lv_aload_n hx hb dX7_step_154 rfl (lv_at hl 6 rfl) ?_
      refine ge_X7_v hx hb hg hown kf_X7_16 hK hP dX7_step_155 ?_
      refine lv_bipush (v := 17) hx hb dX7_step_158 (by decide) ?_
      refine lv_iload hx hb dX7_step_160 (lv_at hl 0 rfl) ?_
      refine mac_v 17 (by decide) hi hx hb hK hP hS dX7_step_162 (fun H locs hP hS => ?_)
      refine lv_iconst (v := 0) hx hb dX7_step_163 (by decide) ?_
      have hF : (_, _) = F := hF
      exact g_iret hx hb hr hlocks hP hS dX7_step_164 (g_p1 hF) (g_p2 hF)
    · have hF := (if_neg c3).symm.trans hF
      have hok := Eq.mp (if_neg c3) hok
      refine sw_case (v := 2) (fun c4 => ?_) (fun c4 => ?_)
      · have hF := (if_pos c4).symm.trans hF
        have hok := Eq.mp (if_pos c4) hok
        refine sw_in (off := 97) (tgt := 165) 2 hx hb dX7_step_68 c4 (by decide) (by decide) ?_
        refine lv_aload_n hx hb dX7_step_165 rfl (lv_at hl 6 rfl) ?_
        refine lv_iload hx hb dX7_step_166 (lv_at hl 0 rfl) ?_
        obtain ⟨c5, hok⟩ := hok
        refine g_Vi hx hb hml hown hg (c_X7_call l dC dI cI cZ x hi _ _ c5) cs_X7_168 rfl rfl ⟨Nat.le_of_ble_eq_true rfl, Nat.le_of_ble_eq_true rfl⟩ hK hP hS (q0 := 0) rfl rfl rfl hl.1 rfl (Nat.le_of_ble_eq_true rfl) dX7_step_168 ⟨Nat.zero_le _, Nat.zero_le _⟩ (fun H locs hP hS => ?_)
        have hF : (_, _) = F := hF
        exact g_iret hx hb hr hlocks hP hS dX7_step_171 (g_p1 hF) (g_p2 hF)
      · have hF := (if_neg c4).symm.trans hF
        have hok := Eq.mp (if_neg c4) hok
        refine sw_case (v := 3) (fun c6 => ?_) (fun c6 => ?_)
        · have hF := (if_pos c6).symm.trans hF
          have hok := Eq.mp (if_pos c6) hok
          refine sw_in (off := 104) (tgt := 172) 3 hx hb dX7_step_68 c6 (by decide) (by decide) ?_
          refine lv_aload_n hx hb dX7_step_172 rfl (lv_at hl 6 rfl) ?_
          refine lv_aload_n hx hb dX7_step_173 rfl (lv_at hl 6 rfl) ?_
          refine ge_X7_v hx hb hg hown kf_X7_16 hK hP dX7_step_174 ?_
          refine lv_iload_n hx hb dX7_step_177 rfl (lv_at hl 4 rfl) ?_
          obtain ⟨c7, hok⟩ := hok
          refine ml_v hx hb hK hP c7 dX7_step_178 ?_
          refine lv_iload hx hb dX7_step_179 (lv_at hl 1 rfl) ?_
          refine lv_icmp_ne (tgt := 188) hx hb dX7_step_181 (by decide) (fun c8 => ?_) (fun c8 => ?_)
          · have hF := (if_neg c8).symm.trans hF
            have hok := Eq.mp (if_neg c8) hok
            refine lv_iconst (v := 0) hx hb dX7_step_188 (by decide) ?_
            refine g_Vv hx hb hml hown hg (c_X7_goesOn l dC dI cI cZ x hi _ _) cs_X7_154 rfl rfl ⟨Nat.le_of_ble_eq_true rfl, Nat.le_of_ble_eq_true rfl⟩ hK hP hS (q0 := 0) rfl rfl rfl hl.1 rfl (Nat.le_of_ble_eq_true rfl) dX7_step_189 ⟨Nat.zero_le _, Nat.zero_le _⟩ (fun H locs hP hS => ?_)
            refine lv_iconst (v := 0) hx hb dX7_step_192 (by decide) ?_
            have hF : (_, _) = F := hF
            exact g_iret hx hb hr hlocks hP hS dX7_step_193 (g_p1 hF) (g_p2 hF)
          · have hF := (if_pos c8).symm.trans hF
            have hok := Eq.mp (if_pos c8) hok
            refine lv_iconst (v := 1) hx hb dX7_step_184 (by decide) ?_
            refine lv_goto (tgt := 189) hx hb dX7_step_185 (by decide) ?_
            refine g_Vv hx hb hml hown hg (c_X7_goesOn l dC dI cI cZ x hi _ _) cs_X7_154 rfl rfl ⟨Nat.le_of_ble_eq_true rfl, Nat.le_of_ble_eq_true rfl⟩ hK hP hS (q0 := 0) rfl rfl rfl hl.1 rfl (Nat.le_of_ble_eq_true rfl) dX7_step_189 ⟨Nat.zero_le _, Nat.zero_le _⟩ (fun H locs hP hS => ?_)
            refine lv_iconst (v := 0) hx hb dX7_step_192 (by decide) ?_
            have hF : (_, _) = F := hF
            exact g_iret hx hb hr hlocks hP hS dX7_step_193 (g_p1 hF) (g_p2 hF)
        · have hF := (if_neg c6).symm.trans hF
          have hok := Eq.mp (if_neg c6) hok
          refine sw_case (v := 4) (fun c9 => ?_) (fun c9 => ?_)
          · have hF := (if_pos c9).symm.trans hF
            have hok := Eq.mp (if_pos c9) hok
            refine sw_in (off := 126) (tgt := 194) 4 hx hb dX7_step_68 c9 (by decide) (by decide) ?_
            refine lv_aload_n hx hb dX7_step_194 rfl (lv_at hl 6 rfl) ?_
            refine lv_aload_n hx hb dX7_step_195 rfl (lv_at hl 6 rfl) ?_
            refine ge_X7_v hx hb hg hown kf_X7_16 hK hP dX7_step_196 ?_
            refine lv_iload_n hx hb dX7_step_199 rfl (lv_at hl 4 rfl) ?_
            obtain ⟨c10, hok⟩ := hok
            refine ml_v hx hb hK hP c10 dX7_step_200 ?_
            refine lv_iload hx hb dX7_step_201 (lv_at hl 1 rfl) ?_
            refine lv_icmp_eq (tgt := 210) hx hb dX7_step_203 (by decide) (fun c11 => ?_) (fun c11 => ?_)
            · have hF := (if_pos c11).symm.trans hF
              have hok := Eq.mp (if_pos c11) hok
              refine lv_iconst (v := 0) hx hb dX7_step_210 (by decide) ?_
              refine g_Vv hx hb hml hown hg (c_X7_goesOn l dC dI cI cZ x hi _ _) cs_X7_154 rfl rfl ⟨Nat.le_of_ble_eq_true rfl, Nat.le_of_ble_eq_true rfl⟩ hK hP hS (q0 := 0) rfl rfl rfl hl.1 rfl (Nat.le_of_ble_eq_true rfl) dX7_step_211 ⟨Nat.zero_le _, Nat.zero_le _⟩ (fun H locs hP hS => ?_)
              refine lv_iconst (v := 0) hx hb dX7_step_214 (by decide) ?_
              have hF : (_, _) = F := hF
              exact g_iret hx hb hr hlocks hP hS dX7_step_215 (g_p1 hF) (g_p2 hF)
            · have hF := (if_neg c11).symm.trans hF
              have hok := Eq.mp (if_neg c11) hok
              refine lv_iconst (v := 1) hx hb dX7_step_206 (by decide) ?_
              refine lv_goto (tgt := 211) hx hb dX7_step_207 (by decide) ?_
              refine g_Vv hx hb hml hown hg (c_X7_goesOn l dC dI cI cZ x hi _ _) cs_X7_154 rfl rfl ⟨Nat.le_of_ble_eq_true rfl, Nat.le_of_ble_eq_true rfl⟩ hK hP hS (q0 := 0) rfl rfl rfl hl.1 rfl (Nat.le_of_ble_eq_true rfl) dX7_step_211 ⟨Nat.zero_le _, Nat.zero_le _⟩ (fun H locs hP hS => ?_)
              refine lv_iconst (v := 0) hx hb dX7_step_214 (by decide) ?_
              have hF : (_, _) = F := hF
              exact g_iret hx hb hr hlocks hP hS dX7_step_215 (g_p1 hF) (g_p2 hF)
          · have hF := (if_neg c9).symm.trans hF
            have hok := Eq.mp (if_neg c9) hok
            refine sw_case (v := 5) (fun c12 => ?_) (fun c12 => ?_)
            · have hF := (if_pos c12).symm.trans hF
              have hok := Eq.mp (if_pos c12) hok
              refine sw_in (off := 148) (tgt := 216) 5 hx hb dX7_step_68 c12 (by decide) (by decide) ?_
              refine lv_aload_n hx hb dX7_step_216 rfl (lv_at hl 6 rfl) ?_
              refine lv_iload_n hx hb dX7_step_217 rfl (lv_at hl 4 rfl) ?_
              refine lv_iload_n hx hb dX7_step_218 rfl (lv_at hl 3 rfl) ?_
              refine lv_iload hx hb dX7_step_219 (lv_at hl 2 rfl) ?_
              refine lv_iconst (v := 1) hx hb dX7_step_221 (by decide) ?_
              obtain ⟨c13, hok⟩ := hok
              refine g_Vi hx hb hml hown hg (c_X7_compared l dC dI cI cZ x hi _ _ _ _ _ c13) cs_X7_171 rfl rfl ⟨Nat.le_of_ble_eq_true rfl, Nat.le_of_ble_eq_true rfl⟩ hK hP hS (q0 := 0) rfl rfl rfl hl.1 rfl (Nat.le_of_ble_eq_true rfl) dX7_step_222 ⟨Nat.zero_le _, Nat.zero_le _⟩ (fun H locs hP hS => ?_)
              have hF : (_, _) = F := hF
              exact g_iret hx hb hr hlocks hP hS dX7_step_225 (g_p1 hF) (g_p2 hF)
            · have hF := (if_neg c12).symm.trans hF
              have hok := Eq.mp (if_neg c12) hok
              refine sw_case (v := 8) (fun c14 => ?_) (fun c14 => ?_)
              · have hF := (if_pos c14).symm.trans hF
                have hok := Eq.mp (if_pos c14) hok
                refine sw_in (off := 158) (tgt := 226) 8 hx hb dX7_step_68 c14 (by decide) (by decide) ?_
                refine lv_aload_n hx hb dX7_step_226 rfl (lv_at hl 6 rfl) ?_
                refine lv_iload_n hx hb dX7_step_227 rfl (lv_at hl 4 rfl) ?_
                refine lv_iload_n hx hb dX7_step_228 rfl (lv_at hl 3 rfl) ?_
                refine lv_iload hx hb dX7_step_229 (lv_at hl 2 rfl) ?_
                obtain ⟨c15, hok⟩ := hok
                refine g_Vi hx hb hml hown hg (c_X7_eight l dC dI cI cZ x hi _ _ _ _ c15) cs_X7_175 rfl rfl ⟨Nat.le_of_ble_eq_true rfl, Nat.le_of_ble_eq_true rfl⟩ hK hP hS (q0 := 0) rfl rfl rfl hl.1 rfl (Nat.le_of_ble_eq_true rfl) dX7_step_231 ⟨Nat.zero_le _, Nat.zero_le _⟩ (fun H locs hP hS => ?_)
                have hF : (_, _) = F := hF
                exact g_iret hx hb hr hlocks hP hS dX7_step_234 (g_p1 hF) (g_p2 hF)
              · have hF := (if_neg c14).symm.trans hF
                have hok := Eq.mp (if_neg c14) hok
                refine sw_case (v := 9) (fun c16 => ?_) (fun c16 => ?_)
                · have hF := (if_pos c16).symm.trans hF
                  have hok := Eq.mp (if_pos c16) hok
                  refine sw_in (off := 167) (tgt := 235) 9 hx hb dX7_step_68 c16 (by decide) (by decide) ?_
                  refine lv_aload_n hx hb dX7_step_235 rfl (lv_at hl 6 rfl) ?_
                  refine lv_iload_n hx hb dX7_step_236 rfl (lv_at hl 4 rfl) ?_
                  refine lv_iload_n hx hb dX7_step_237 rfl (lv_at hl 3 rfl) ?_
                  refine lv_iload hx hb dX7_step_238 (lv_at hl 2 rfl) ?_
                  refine lv_iconst (v := 0) hx hb dX7_step_240 (by decide) ?_
                  obtain ⟨c17, hok⟩ := hok
                  refine g_Vi hx hb hml hown hg (c_X7_compared l dC dI cI cZ x hi _ _ _ _ _ c17) cs_X7_171 rfl rfl ⟨Nat.le_of_ble_eq_true rfl, Nat.le_of_ble_eq_true rfl⟩ hK hP hS (q0 := 0) rfl rfl rfl hl.1 rfl (Nat.le_of_ble_eq_true rfl) dX7_step_241 ⟨Nat.zero_le _, Nat.zero_le _⟩ (fun H locs hP hS => ?_)
                  have hF : (_, _) = F := hF
                  exact g_iret hx hb hr hlocks hP hS dX7_step_244 (g_p1 hF) (g_p2 hF)
                · have hF := (if_neg c16).symm.trans hF
                  have hok := Eq.mp (if_neg c16) hok
                  refine sw_case (v := 11) (fun c18 => ?_) (fun c18 => ?_)
                  · have hF := (if_pos c18).symm.trans hF
                    have hok := Eq.mp (if_pos c18) hok
                    refine sw_in (off := 177) (tgt := 245) 11 hx hb dX7_step_68 c18 (by decide) (by decide) ?_
                    refine lv_aload_n hx hb dX7_step_245 rfl (lv_at hl 6 rfl) ?_
                    refine ge_X7_v hx hb hg hown kf_X7_16 hK hP dX7_step_246 ?_
                    refine lv_bipush (v := 17) hx hb dX7_step_249 (by decide) ?_
                    refine lv_iload hx hb dX7_step_251 (lv_at hl 0 rfl) ?_
                    refine lv_aload_n hx hb dX7_step_253 rfl (lv_at hl 6 rfl) ?_
                    refine ge_X7_v hx hb hg hown kf_X7_16 hK hP dX7_step_254 ?_
                    refine lv_iconst (v := 0) hx hb dX7_step_257 (by decide) ?_
                    refine mlc_v 0 (by decide) hx hb hK hP dX7_step_258 ?_
                    refine lv_iadd hx hb dX7_step_259 ?_
                    refine lv_sipush (v := 4095) hx hb dX7_step_260 (by decide) ?_
                    refine lv_iand hx hb dX7_step_263 ?_
                    refine mac_v 17 (by decide) hi hx hb hK hP hS dX7_step_264 (fun H locs hP hS => ?_)
                    refine lv_iconst (v := 0) hx hb dX7_step_265 (by decide) ?_
                    have hF : (_, _) = F := hF
                    exact g_iret hx hb hr hlocks hP hS dX7_step_266 (g_p1 hF) (g_p2 hF)
                  · have hF := (if_neg c18).symm.trans hF
                    have hok := Eq.mp (if_neg c18) hok
                    refine sw_case (v := 14) (fun c19 => ?_) (fun c19 => ?_)
                    · have hF := (if_pos c19).symm.trans hF
                      have hok := Eq.mp (if_pos c19) hok
                      refine sw_in (off := 199) (tgt := 267) 14 hx hb dX7_step_68 c19 (by decide) (by decide) ?_
                      refine lv_aload_n hx hb dX7_step_267 rfl (lv_at hl 6 rfl) ?_
                      refine lv_iload_n hx hb dX7_step_268 rfl (lv_at hl 4 rfl) ?_
                      refine lv_iload hx hb dX7_step_269 (lv_at hl 1 rfl) ?_
                      obtain ⟨c20, hok⟩ := hok
                      refine g_Vi hx hb hml hown hg (c_X7_keyed l dC dI cI cZ x hi _ _ _ c20) cs_X7_179 rfl rfl ⟨Nat.le_of_ble_eq_true rfl, Nat.le_of_ble_eq_true rfl⟩ hK hP hS (q0 := 0) rfl rfl rfl hl.1 rfl (Nat.le_of_ble_eq_true rfl) dX7_step_271 ⟨Nat.zero_le _, Nat.zero_le _⟩ (fun H locs hP hS => ?_)
                      have hF : (_, _) = F := hF
                      exact g_iret hx hb hr hlocks hP hS dX7_step_274 (g_p1 hF) (g_p2 hF)
                    · have hF := (if_neg c19).symm.trans hF
                      have hok := Eq.mp (if_neg c19) hok
                      refine sw_case (v := 15) (fun c21 => ?_) (fun c21 => ?_)
                      · have hF := (if_pos c21).symm.trans hF
                        have hok := Eq.mp (if_pos c21) hok
                        refine sw_in (off := 207) (tgt := 275) 15 hx hb dX7_step_68 c21 (by decide) (by decide) ?_
                        refine lv_aload_n hx hb dX7_step_275 rfl (lv_at hl 6 rfl) ?_
                        refine lv_iload_n hx hb dX7_step_276 rfl (lv_at hl 4 rfl) ?_
                        refine lv_iload hx hb dX7_step_277 (lv_at hl 1 rfl) ?_
                        obtain ⟨c22, hok⟩ := hok
                        refine g_Vi hx hb hml hown hg (c_X7_fifteen l dC dI cI cZ x hi _ _ _ c22) cs_X7_183 rfl rfl ⟨Nat.le_of_ble_eq_true rfl, Nat.le_of_ble_eq_true rfl⟩ hK hP hS (q0 := 0) rfl rfl rfl hl.1 rfl (Nat.le_of_ble_eq_true rfl) dX7_step_279 ⟨Nat.zero_le _, Nat.zero_le _⟩ (fun H locs hP hS => ?_)
                        have hF : (_, _) = F := hF
                        exact g_iret hx hb hr hlocks hP hS dX7_step_282 (g_p1 hF) (g_p2 hF)
                      · have hF := (if_neg c21).symm.trans hF
                        have hok := Eq.mp (if_neg c21) hok
                        refine sw_def (tgt := 283) [0, 1, 2, 3, 4, 5, 8, 9, 11, 14, 15] hx hb dX7_step_68 (List.forall_mem_cons.mpr ⟨c1, List.forall_mem_cons.mpr ⟨c3, List.forall_mem_cons.mpr ⟨c4, List.forall_mem_cons.mpr ⟨c6, List.forall_mem_cons.mpr ⟨c9, List.forall_mem_cons.mpr ⟨c12, List.forall_mem_cons.mpr ⟨c14, List.forall_mem_cons.mpr ⟨c16, List.forall_mem_cons.mpr ⟨c18, List.forall_mem_cons.mpr ⟨c19, List.forall_mem_cons.mpr ⟨c21, fun _ h => absurd h List.not_mem_nil⟩⟩⟩⟩⟩⟩⟩⟩⟩⟩⟩) (by decide) (by decide) ?_
                        refine lv_aload_n hx hb dX7_step_283 rfl (lv_at hl 6 rfl) ?_
                        refine lv_iload_n hx hb dX7_step_284 rfl (lv_at hl 5 rfl) ?_
                        obtain ⟨c23, hok⟩ := hok
                        refine g_Vv hx hb hml hown hg (c_X7_simple l dC dI cI cZ x hi _ _ c23) cs_X7_186 rfl rfl ⟨Nat.le_of_ble_eq_true rfl, Nat.le_of_ble_eq_true rfl⟩ hK hP hS (q0 := 0) rfl rfl rfl hl.1 rfl (Nat.le_of_ble_eq_true rfl) dX7_step_285 ⟨Nat.zero_le _, Nat.zero_le _⟩ (fun H locs hP hS => ?_)
                        refine lv_iconst (v := 0) hx hb dX7_step_288 (by decide) ?_
                        have hF : (_, _) = F := hF
                        exact g_iret hx hb hr hlocks hP hS dX7_step_289 (g_p1 hF) (g_p2 hF)
def f_X7_chip_L : Nat → MS → Int32 → Int32 → Int32 × MS
  | 0, u, _, _ => (0, u)
  | n + 1, u, a1, a2 =>
    if a1 ≤ a2 then
      (a1, u)
    else
      let r4 : Int32 × MS := f_X7_step u
      let t5 : Int32 := r4.1
      if t5 = 3 then
        (a2, r4.2)
      else
        if t5 = 0 then
          let r6 : Int32 × MS := f_X7_fails r4.2 0 3
          if r6.1 = 0 then
            let t7 : Int32 := a2 + Int32.ofInt 1
            f_X7_chip_L n r6.2 a1 t7
          else
            (0, r6.2)
        else
          if t5 = 1 then
            let r8 : Int32 × MS := f_X7_fails r4.2 1 2
            if r8.1 = 0 then
              let t9 : Int32 := a2 + Int32.ofInt 1
              f_X7_chip_L n r8.2 a1 t9
            else
              (0, r8.2)
          else
            let r10 : Int32 × MS := f_X7_fails r4.2 1 3
            if r10.1 = 0 then
              let t11 : Int32 := a2 + Int32.ofInt 1
              f_X7_chip_L n r10.2 a1 t11
            else
              (0, r10.2)
def ok_X7_chip_L : Nat → MS → Int32 → Int32 → Prop
  | 0, _, _, _ => False
  | n + 1, u, a1, a2 =>
    if a1 ≤ a2 then
      True
    else
      ok_X7_step u ∧
      let r4 : Int32 × MS := f_X7_step u
      let t5 : Int32 := r4.1
      if t5 = 3 then
        True
      else
        if t5 = 0 then
          let r6 : Int32 × MS := f_X7_fails r4.2 0 3
          if r6.1 = 0 then
            let t7 : Int32 := a2 + Int32.ofInt 1
            ok_X7_chip_L n r6.2 a1 t7
          else
            True
        else
          if t5 = 1 then
            let r8 : Int32 × MS := f_X7_fails r4.2 1 2
            if r8.1 = 0 then
              let t9 : Int32 := a2 + Int32.ofInt 1
              ok_X7_chip_L n r8.2 a1 t9
            else
              True
          else
            let r10 : Int32 × MS := f_X7_fails r4.2 1 3
            if r10.1 = 0 then
              let t11 : Int32 := a2 + Int32.ofInt 1
              ok_X7_chip_L n r10.2 a1 t11
            else
              True
def f_X7_chip (u : MS) (p0 : Int32) : Int32 × MS :=
  if p0 < 1 then
    let r1 : Int32 × MS := f_X7_fails u 1 1
    if r1.1 = 0 then
      f_X7_chip_L 201 r1.2 p0 0
    else
      (0, r1.2)
  else
    if p0 ≤ 200 then
      let r2 : Int32 × MS := f_X7_fails u 0 1
      if r2.1 = 0 then
        f_X7_chip_L 201 r2.2 p0 0
      else
        (0, r2.2)
    else
      let r3 : Int32 × MS := f_X7_fails u 1 1
      if r3.1 = 0 then
        f_X7_chip_L 201 r3.2 p0 0
      else
        (0, r3.2)
def ok_X7_chip (u : MS) (p0 : Int32) : Prop :=
  if p0 < 1 then
    let r1 : Int32 × MS := f_X7_fails u 1 1
    if r1.1 = 0 then
      ok_X7_chip_L 201 r1.2 p0 0
    else
      True
  else
    if p0 ≤ 200 then
      let r2 : Int32 × MS := f_X7_fails u 0 1
      if r2.1 = 0 then
        ok_X7_chip_L 201 r2.2 p0 0
      else
        True
    else
      let r3 : Int32 × MS := f_X7_fails u 1 1
      if r3.1 = 0 then
        ok_X7_chip_L 201 r3.2 p0 0
      else
        True
set_option maxHeartbeats 4000000 in
set_option maxRecDepth 100000 in
theorem c_X7_chip (l : Launch) (dC : Nat → ClassId) (dI : Nat → Nat → Nat) (cI cZ : ClassId) (x : Nat → Nat) (hi : g_inj 7 x) (u : MS) (p0 : Int32) (hok : ok_X7_chip u p0) : g_Mi l yX7_chip (.code yX7_chip cX7_chip 4 (some .int)) { frames := 4, cells := 0, slots := 0, locals := 101 } (dC, dI) vwCl (tysW cI cZ) (wM x cI cZ) (g_bA 7 x) u [.ref (x 0), .int p0] (f_X7_chip u p0).1 (f_X7_chip u p0).2 := by
  refine Met.ofW (cc := cX7_chip) (maxL := 4) (ret := (some .int)) (by decide) rfl ?_
  intro p e s m args below meth c s₁ B hml hv
  obtain ⟨rfl, hP, hK⟩ := hv
  have hx := B.exec
  have hb := B.bytes
  have hr := B.returns
  have hts := atoms_spec (ws := .code yX7_chip cX7_chip 4 (some .int) :: gtbl) B.pre
  have hg : ∀ w ∈ gtbl, w.before _ s = true := fun w h => hts w (List.mem_cons_of_mem _ h)
  have hown : s.vm.findClass RX7 = some m.cls := findClass_of_methodNamed B.named
  have hlocks := B.notSynchronized
  have hS : va_S (g_bA 7 x) s.heap s.heap [] := va_S.rf
  have hl := lv_entry ([.ref (x 0), .int p0]) (n := 4) (Nat.le_of_ble_eq_true rfl)
  rw [lg_entry_eq]
  generalize (lg_sl ([.ref (x 0), .int p0]) ++ List.replicate (4 - (lg_sl ([.ref (x 0), .int p0])).length) Slot.unset).toArray = ls at hl ⊢
  have hl : lv_has ls 4 [(0, .ref (x 0)), (1, .int p0)] := hl
  obtain ⟨F, hF⟩ : ∃ F, f_X7_chip u p0 = F := ⟨_, rfl⟩
  rw [hF]
  have loop : ∀ (n : Nat), (∀ (u : MS) (a1 : Int32) (a2 : Int32) (H : Heap) (locs : List Loc) (ls : Array Slot), f_X7_chip_L n u a1 a2 = F → ok_X7_chip_L n u a1 a2 → va_P (dC, dI) vwCl (wM x cI cZ u) H → va_S (g_bA 7 x) s.heap H locs → lv_has ls 4 [(0, .ref (x 0)), (1, .int a1), (2, .int a2)] → W p l e (headSpec (.code yX7_chip cX7_chip 4 (some .int) :: gtbl) { frames := 4, cells := 0, slots := 0, locals := 101 }).room s m ([.ref (x 0), .int p0] : List Value).toArray below meth c H locs 0 0 (MQ below (va_Qi (fun r1 v1 => r1 = F.1 ∧ v1 = F.2) (fun v1 t => va_P (dC, dI) vwCl (wM x cI cZ v1) t.heap) (g_bA 7 x)) ([.ref (x 0), .int p0] : List Value).toArray s 0 0 (g_bA 7 x)) (F0 m 29 ls [])) := by
    intro n
    induction n with
    | zero => intro u a1 a2 H locs ls hF hok; exact hok.elim
    | succ n ih =>
      intro u a1 a2 H locs ls hF hok hP hS hl
      refine lv_iload_n hx hb dX7_chip_29 rfl (lv_at hl 2 rfl) ?_
      refine lv_iload_n hx hb dX7_chip_30 rfl (lv_at hl 1 rfl) ?_
      refine lv_icmp_ge (tgt := 80) hx hb dX7_chip_31 (by decide) (fun c6 => ?_) (fun c6 => ?_)
      · have hF := (if_pos c6).symm.trans hF
        have hok := Eq.mp (if_pos c6) hok
        refine lv_iload_n hx hb dX7_chip_80 rfl (lv_at hl 1 rfl) ?_
        have hF : (_, _) = F := hF
        exact g_iret hx hb hr hlocks hP hS dX7_chip_81 (g_p1 hF) (g_p2 hF)
      · have hF := (if_neg c6).symm.trans hF
        have hok := Eq.mp (if_neg c6) hok
        refine lv_aload_n hx hb dX7_chip_34 rfl (lv_at hl 0 rfl) ?_
        obtain ⟨c7, hok⟩ := hok
        refine g_Vi hx hb hml hown hg (c_X7_step l dC dI cI cZ x hi _ c7) cs_X7_195 rfl rfl ⟨Nat.le_of_ble_eq_true rfl, Nat.le_of_ble_eq_true rfl⟩ hK hP hS (q0 := 0) rfl rfl rfl hl.1 rfl (Nat.le_of_ble_eq_true rfl) dX7_chip_35 ⟨Nat.zero_le _, Nat.zero_le _⟩ (fun H locs hP hS => ?_)
        refine lv_istore_n hx hb dX7_chip_38 rfl hl (by decide) rfl (fun ls hl => ?_)
        have hl : lv_has ls 4 [(3, _), (0, _), (1, _), (2, _)] := hl
        refine lv_iload_n hx hb dX7_chip_39 rfl (lv_at hl 0 rfl) ?_
        refine lv_iconst (v := 3) hx hb dX7_chip_40 (by decide) ?_
        refine lv_icmp_ne (tgt := 46) hx hb dX7_chip_41 (by decide) (fun c8 => ?_) (fun c8 => ?_)
        · have hF := (if_neg c8).symm.trans hF
          have hok := Eq.mp (if_neg c8) hok
          refine lv_aload_n hx hb dX7_chip_46 rfl (lv_at hl 1 rfl) ?_
          refine lv_iload_n hx hb dX7_chip_47 rfl (lv_at hl 0 rfl) ?_
          refine lv_if_eq (tgt := 55) hx hb dX7_chip_48 (by decide) (fun c9 => ?_) (fun c9 => ?_)
          · have hF := (if_pos c9).symm.trans hF
            have hok := Eq.mp (if_pos c9) hok
            refine lv_iconst (v := 0) hx hb dX7_chip_55 (by decide) ?_
            refine lv_iload_n hx hb dX7_chip_56 rfl (lv_at hl 0 rfl) ?_
            refine lv_iconst (v := 1) hx hb dX7_chip_57 (by decide) ?_
            refine lv_icmp_ne (tgt := 65) hx hb dX7_chip_58 (by decide) (fun c10 => ?_) (fun c10 => ?_)
            · refine lv_iconst (v := 3) hx hb dX7_chip_65 (by decide) ?_
              refine g_Vi hx hb hml hown hg (c_X7_fails l dC dI cI cZ x hi _ _ _) cs_X7_37 rfl rfl ⟨Nat.le_of_ble_eq_true rfl, Nat.le_of_ble_eq_true rfl⟩ hK hP hS (q0 := 0) rfl rfl rfl hl.1 rfl (Nat.le_of_ble_eq_true rfl) dX7_chip_66 ⟨Nat.zero_le _, Nat.zero_le _⟩ (fun H locs hP hS => ?_)
              refine lv_if_eq (tgt := 74) hx hb dX7_chip_69 (by decide) (fun c11 => ?_) (fun c11 => ?_)
              · have hF := (if_pos c11).symm.trans hF
                have hok := Eq.mp (if_pos c11) hok
                refine lv_iinc hx hb dX7_chip_74 hl (k := 3) rfl rfl (by decide) rfl (fun ls hl => ?_)
                have hl : lv_has ls 4 [(2, _), (3, _), (0, _), (1, _)] := hl
                refine lv_goto (tgt := 29) hx hb dX7_chip_77 (by decide) ?_
                exact ih _ _ _ _ _ _ hF hok hP hS (lv_sub hl [2, 3, 0] rfl)
              · have hF := (if_neg c11).symm.trans hF
                have hok := Eq.mp (if_neg c11) hok
                refine lv_iconst (v := 0) hx hb dX7_chip_72 (by decide) ?_
                have hF : (_, _) = F := hF
                exact g_iret hx hb hr hlocks hP hS dX7_chip_73 (g_p1 hF) (g_p2 hF)
            · exact absurd c10 (by rw [c9]; decide)
          · have hF := (if_neg c9).symm.trans hF
            have hok := Eq.mp (if_neg c9) hok
            refine lv_iconst (v := 1) hx hb dX7_chip_51 (by decide) ?_
            refine lv_goto (tgt := 56) hx hb dX7_chip_52 (by decide) ?_
            refine lv_iload_n hx hb dX7_chip_56 rfl (lv_at hl 0 rfl) ?_
            refine lv_iconst (v := 1) hx hb dX7_chip_57 (by decide) ?_
            refine lv_icmp_ne (tgt := 65) hx hb dX7_chip_58 (by decide) (fun c12 => ?_) (fun c12 => ?_)
            · have hF := (if_neg c12).symm.trans hF
              have hok := Eq.mp (if_neg c12) hok
              refine lv_iconst (v := 3) hx hb dX7_chip_65 (by decide) ?_
              refine g_Vi hx hb hml hown hg (c_X7_fails l dC dI cI cZ x hi _ _ _) cs_X7_37 rfl rfl ⟨Nat.le_of_ble_eq_true rfl, Nat.le_of_ble_eq_true rfl⟩ hK hP hS (q0 := 0) rfl rfl rfl hl.1 rfl (Nat.le_of_ble_eq_true rfl) dX7_chip_66 ⟨Nat.zero_le _, Nat.zero_le _⟩ (fun H locs hP hS => ?_)
              refine lv_if_eq (tgt := 74) hx hb dX7_chip_69 (by decide) (fun c14 => ?_) (fun c14 => ?_)
              · have hF := (if_pos c14).symm.trans hF
                have hok := Eq.mp (if_pos c14) hok
                refine lv_iinc hx hb dX7_chip_74 hl (k := 3) rfl rfl (by decide) rfl (fun ls hl => ?_)
                have hl : lv_has ls 4 [(2, _), (3, _), (0, _), (1, _)] := hl
                refine lv_goto (tgt := 29) hx hb dX7_chip_77 (by decide) ?_
                exact ih _ _ _ _ _ _ hF hok hP hS (lv_sub hl [2, 3, 0] rfl)
              · have hF := (if_neg c14).symm.trans hF
                have hok := Eq.mp (if_neg c14) hok
                refine lv_iconst (v := 0) hx hb dX7_chip_72 (by decide) ?_
                have hF : (_, _) = F := hF
                exact g_iret hx hb hr hlocks hP hS dX7_chip_73 (g_p1 hF) (g_p2 hF)
            · have hF := (if_pos c12).symm.trans hF
              have hok := Eq.mp (if_pos c12) hok
              refine lv_iconst (v := 2) hx hb dX7_chip_61 (by decide) ?_
              refine lv_goto (tgt := 66) hx hb dX7_chip_62 (by decide) ?_
              refine g_Vi hx hb hml hown hg (c_X7_fails l dC dI cI cZ x hi _ _ _) cs_X7_37 rfl rfl ⟨Nat.le_of_ble_eq_true rfl, Nat.le_of_ble_eq_true rfl⟩ hK hP hS (q0 := 0) rfl rfl rfl hl.1 rfl (Nat.le_of_ble_eq_true rfl) dX7_chip_66 ⟨Nat.zero_le _, Nat.zero_le _⟩ (fun H locs hP hS => ?_)
              refine lv_if_eq (tgt := 74) hx hb dX7_chip_69 (by decide) (fun c13 => ?_) (fun c13 => ?_)
              · have hF := (if_pos c13).symm.trans hF
                have hok := Eq.mp (if_pos c13) hok
                refine lv_iinc hx hb dX7_chip_74 hl (k := 3) rfl rfl (by decide) rfl (fun ls hl => ?_)
                have hl : lv_has ls 4 [(2, _), (3, _), (0, _), (1, _)] := hl
                refine lv_goto (tgt := 29) hx hb dX7_chip_77 (by decide) ?_
                exact ih _ _ _ _ _ _ hF hok hP hS (lv_sub hl [2, 3, 0] rfl)
              · have hF := (if_neg c13).symm.trans hF
                have hok := Eq.mp (if_neg c13) hok
                refine lv_iconst (v := 0) hx hb dX7_chip_72 (by decide) ?_
                have hF : (_, _) = F := hF
                exact g_iret hx hb hr hlocks hP hS dX7_chip_73 (g_p1 hF) (g_p2 hF)
        · have hF := (if_pos c8).symm.trans hF
          have hok := Eq.mp (if_pos c8) hok
          refine lv_iload_n hx hb dX7_chip_44 rfl (lv_at hl 3 rfl) ?_
          have hF : (_, _) = F := hF
          exact g_iret hx hb hr hlocks hP hS dX7_chip_45 (g_p1 hF) (g_p2 hF)
  refine lv_aload_n hx hb dX7_chip_0 rfl (lv_at hl 0 rfl) ?_
  refine lv_iload_n hx hb dX7_chip_1 rfl (lv_at hl 1 rfl) ?_
  refine lv_iconst (v := 1) hx hb dX7_chip_2 (by decide) ?_
  refine lv_icmp_lt (tgt := 13) hx hb dX7_chip_3 (by decide) (fun c1 => ?_) (fun c1 => ?_)
  · have hF := (if_pos c1).symm.trans hF
    have hok := Eq.mp (if_pos c1) hok
    refine lv_iconst (v := 1) hx hb dX7_chip_13 (by decide) ?_
    refine lv_goto (tgt := 18) hx hb dX7_chip_14 (by decide) ?_
    refine lv_iconst (v := 1) hx hb dX7_chip_18 (by decide) ?_
    refine g_Vi hx hb hml hown hg (c_X7_fails l dC dI cI cZ x hi _ _ _) cs_X7_37 rfl rfl ⟨Nat.le_of_ble_eq_true rfl, Nat.le_of_ble_eq_true rfl⟩ hK hP hS (q0 := 0) rfl rfl rfl hl.1 rfl (Nat.le_of_ble_eq_true rfl) dX7_chip_19 ⟨Nat.zero_le _, Nat.zero_le _⟩ (fun H locs hP hS => ?_)
    refine lv_if_eq (tgt := 27) hx hb dX7_chip_22 (by decide) (fun c2 => ?_) (fun c2 => ?_)
    · have hF := (if_pos c2).symm.trans hF
      have hok := Eq.mp (if_pos c2) hok
      refine lv_iconst (v := 0) hx hb dX7_chip_27 (by decide) ?_
      refine lv_istore_n hx hb dX7_chip_28 rfl hl (by decide) rfl (fun ls hl => ?_)
      have hl : lv_has ls 4 [(2, _), (0, _), (1, _)] := hl
      exact (loop 201) _ _ _ _ _ _ hF hok hP hS (lv_sub hl [1, 2, 0] rfl)
    · have hF := (if_neg c2).symm.trans hF
      have hok := Eq.mp (if_neg c2) hok
      refine lv_iconst (v := 0) hx hb dX7_chip_25 (by decide) ?_
      have hF : (_, _) = F := hF
      exact g_iret hx hb hr hlocks hP hS dX7_chip_26 (g_p1 hF) (g_p2 hF)
  · have hF := (if_neg c1).symm.trans hF
    have hok := Eq.mp (if_neg c1) hok
    refine lv_iload_n hx hb dX7_chip_6 rfl (lv_at hl 1 rfl) ?_
    refine lv_sipush (v := 200) hx hb dX7_chip_7 (by decide) ?_
    refine lv_icmp_le (tgt := 17) hx hb dX7_chip_10 (by decide) (fun c3 => ?_) (fun c3 => ?_)
    · have hF := (if_pos c3).symm.trans hF
      have hok := Eq.mp (if_pos c3) hok
      refine lv_iconst (v := 0) hx hb dX7_chip_17 (by decide) ?_
      refine lv_iconst (v := 1) hx hb dX7_chip_18 (by decide) ?_
      refine g_Vi hx hb hml hown hg (c_X7_fails l dC dI cI cZ x hi _ _ _) cs_X7_37 rfl rfl ⟨Nat.le_of_ble_eq_true rfl, Nat.le_of_ble_eq_true rfl⟩ hK hP hS (q0 := 0) rfl rfl rfl hl.1 rfl (Nat.le_of_ble_eq_true rfl) dX7_chip_19 ⟨Nat.zero_le _, Nat.zero_le _⟩ (fun H locs hP hS => ?_)
      refine lv_if_eq (tgt := 27) hx hb dX7_chip_22 (by decide) (fun c4 => ?_) (fun c4 => ?_)
      · have hF := (if_pos c4).symm.trans hF
        have hok := Eq.mp (if_pos c4) hok
        refine lv_iconst (v := 0) hx hb dX7_chip_27 (by decide) ?_
        refine lv_istore_n hx hb dX7_chip_28 rfl hl (by decide) rfl (fun ls hl => ?_)
        have hl : lv_has ls 4 [(2, _), (0, _), (1, _)] := hl
        exact (loop 201) _ _ _ _ _ _ hF hok hP hS (lv_sub hl [1, 2, 0] rfl)
      · have hF := (if_neg c4).symm.trans hF
        have hok := Eq.mp (if_neg c4) hok
        refine lv_iconst (v := 0) hx hb dX7_chip_25 (by decide) ?_
        have hF : (_, _) = F := hF
        exact g_iret hx hb hr hlocks hP hS dX7_chip_26 (g_p1 hF) (g_p2 hF)
    · have hF := (if_neg c3).symm.trans hF
      have hok := Eq.mp (if_neg c3) hok
      refine lv_iconst (v := 1) hx hb dX7_chip_13 (by decide) ?_
      refine lv_goto (tgt := 18) hx hb dX7_chip_14 (by decide) ?_
      refine lv_iconst (v := 1) hx hb dX7_chip_18 (by decide) ?_
      refine g_Vi hx hb hml hown hg (c_X7_fails l dC dI cI cZ x hi _ _ _) cs_X7_37 rfl rfl ⟨Nat.le_of_ble_eq_true rfl, Nat.le_of_ble_eq_true rfl⟩ hK hP hS (q0 := 0) rfl rfl rfl hl.1 rfl (Nat.le_of_ble_eq_true rfl) dX7_chip_19 ⟨Nat.zero_le _, Nat.zero_le _⟩ (fun H locs hP hS => ?_)
      refine lv_if_eq (tgt := 27) hx hb dX7_chip_22 (by decide) (fun c5 => ?_) (fun c5 => ?_)
      · have hF := (if_pos c5).symm.trans hF
        have hok := Eq.mp (if_pos c5) hok
        refine lv_iconst (v := 0) hx hb dX7_chip_27 (by decide) ?_
        refine lv_istore_n hx hb dX7_chip_28 rfl hl (by decide) rfl (fun ls hl => ?_)
        have hl : lv_has ls 4 [(2, _), (0, _), (1, _)] := hl
        exact (loop 201) _ _ _ _ _ _ hF hok hP hS (lv_sub hl [1, 2, 0] rfl)
      · have hF := (if_neg c5).symm.trans hF
        have hok := Eq.mp (if_neg c5) hok
        refine lv_iconst (v := 0) hx hb dX7_chip_25 (by decide) ?_
        have hF : (_, _) = F := hF
        exact g_iret hx hb hr hlocks hP hS dX7_chip_26 (g_p1 hF) (g_p2 hF)
def f_X7_v (u : MS) (p0 : Int32) : Int32 × MS :=
  let r1 : Int32 × MS := f_X7_fails u (f_X7_out u p0 22) 1
  if r1.1 = 0 then
    ((mq_v r1.2 (p0).toNatClampNeg), r1.2)
  else
    (0, r1.2)
def ok_X7_v (u : MS) (p0 : Int32) : Prop :=
  let r1 : Int32 × MS := f_X7_fails u (f_X7_out u p0 22) 1
  if r1.1 = 0 then
    vp_in p0 22 ∧
    True
  else
    True
set_option maxHeartbeats 4000000 in
set_option maxRecDepth 100000 in
theorem c_X7_v (l : Launch) (dC : Nat → ClassId) (dI : Nat → Nat → Nat) (cI cZ : ClassId) (x : Nat → Nat) (hi : g_inj 7 x) (u : MS) (p0 : Int32) (hok : ok_X7_v u p0) : g_Mi l yX7_v (.code yX7_v cX7_v 2 (some .int)) { frames := 1, cells := 0, slots := 0, locals := 22 } (dC, dI) vwCl (tysW cI cZ) (wM x cI cZ) (g_bA 7 x) u [.ref (x 0), .int p0] (f_X7_v u p0).1 (f_X7_v u p0).2 := by
  refine Met.ofW (cc := cX7_v) (maxL := 2) (ret := (some .int)) (by decide) rfl ?_
  intro p e s m args below meth c s₁ B hml hv
  obtain ⟨rfl, hP, hK⟩ := hv
  have hx := B.exec
  have hb := B.bytes
  have hr := B.returns
  have hts := atoms_spec (ws := .code yX7_v cX7_v 2 (some .int) :: gtbl) B.pre
  have hg : ∀ w ∈ gtbl, w.before _ s = true := fun w h => hts w (List.mem_cons_of_mem _ h)
  have hown : s.vm.findClass RX7 = some m.cls := findClass_of_methodNamed B.named
  have hlocks := B.notSynchronized
  have hS : va_S (g_bA 7 x) s.heap s.heap [] := va_S.rf
  have hl := lv_entry ([.ref (x 0), .int p0]) (n := 2) (Nat.le_of_ble_eq_true rfl)
  rw [lg_entry_eq]
  generalize (lg_sl ([.ref (x 0), .int p0]) ++ List.replicate (2 - (lg_sl ([.ref (x 0), .int p0])).length) Slot.unset).toArray = ls at hl ⊢
  have hl : lv_has ls 2 [(0, .ref (x 0)), (1, .int p0)] := hl
  obtain ⟨F, hF⟩ : ∃ F, f_X7_v u p0 = F := ⟨_, rfl⟩
  rw [hF]
  refine lv_aload_n hx hb dX7_v_0 rfl (lv_at hl 0 rfl) ?_
  refine lv_iload_n hx hb dX7_v_1 rfl (lv_at hl 1 rfl) ?_
  refine lv_bipush (v := 22) hx hb dX7_v_2 (by decide) ?_
  refine g_Si hx hb hml hown hg (c_X7_out l dC dI cI cZ x hi _ _ _) cs_X7_33 rfl rfl ⟨Nat.le_of_ble_eq_true rfl, Nat.le_of_ble_eq_true rfl⟩ hK hP hS rfl hl.1 rfl (Nat.le_of_ble_eq_true rfl) dX7_v_4 ⟨Nat.zero_le _, Nat.zero_le _⟩ (fun H locs hP hS => ?_)
  refine lv_iconst (v := 1) hx hb dX7_v_7 (by decide) ?_
  refine g_Vi hx hb hml hown hg (c_X7_fails l dC dI cI cZ x hi _ _ _) cs_X7_37 rfl rfl ⟨Nat.le_of_ble_eq_true rfl, Nat.le_of_ble_eq_true rfl⟩ hK hP hS (q0 := 0) rfl rfl rfl hl.1 rfl (Nat.le_of_ble_eq_true rfl) dX7_v_8 ⟨Nat.zero_le _, Nat.zero_le _⟩ (fun H locs hP hS => ?_)
  refine lv_if_eq (tgt := 18) hx hb dX7_v_11 (by decide) (fun c1 => ?_) (fun c1 => ?_)
  · have hF := (if_pos c1).symm.trans hF
    have hok := Eq.mp (if_pos c1) hok
    refine lv_aload_n hx hb dX7_v_18 rfl (lv_at hl 0 rfl) ?_
    refine ge_X7_v hx hb hg hown kf_X7_16 hK hP dX7_v_19 ?_
    refine lv_iload_n hx hb dX7_v_22 rfl (lv_at hl 1 rfl) ?_
    obtain ⟨c2, hok⟩ := hok
    refine ml_v hx hb hK hP c2 dX7_v_23 ?_
    have hF : (_, _) = F := hF
    exact g_iret hx hb hr hlocks hP hS dX7_v_24 (g_p1 hF) (g_p2 hF)
  · have hF := (if_neg c1).symm.trans hF
    have hok := Eq.mp (if_neg c1) hok
    refine lv_iconst (v := 0) hx hb dX7_v_14 (by decide) ?_
    refine lv_goto (tgt := 24) hx hb dX7_v_15 (by decide) ?_
    have hF : (_, _) = F := hF
    exact g_iret hx hb hr hlocks hP hS dX7_v_24 (g_p1 hF) (g_p2 hF)
def f_X7_start (u : MS) (p0 : Int32) : MS :=
  let r1 : Int32 × MS := f_X7_fails u (f_X7_out u p0 2048) 1
  if r1.1 = 0 then
    let u2 : MS := ms_v r1.2 (upd (mq_v r1.2) 17 p0)
    let u3 : MS := ms_v u2 (upd (mq_v u2) 18 0)
    u3
  else
    r1.2
set_option maxHeartbeats 4000000 in
set_option maxRecDepth 100000 in
theorem c_X7_start (l : Launch) (dC : Nat → ClassId) (dI : Nat → Nat → Nat) (cI cZ : ClassId) (x : Nat → Nat) (hi : g_inj 7 x) (u : MS) (p0 : Int32) : g_Mv l yX7_start (.code yX7_start cX7_start 2 none) { frames := 1, cells := 0, slots := 0, locals := 22 } (dC, dI) vwCl (tysW cI cZ) (wM x cI cZ) (g_bA 7 x) u [.ref (x 0), .int p0] (f_X7_start u p0) := by
  refine Met.ofW (cc := cX7_start) (maxL := 2) (ret := none) (by decide) rfl ?_
  intro p e s m args below meth c s₁ B hml hv
  obtain ⟨rfl, hP, hK⟩ := hv
  have hx := B.exec
  have hb := B.bytes
  have hr := B.returns
  have hts := atoms_spec (ws := .code yX7_start cX7_start 2 none :: gtbl) B.pre
  have hg : ∀ w ∈ gtbl, w.before _ s = true := fun w h => hts w (List.mem_cons_of_mem _ h)
  have hown : s.vm.findClass RX7 = some m.cls := findClass_of_methodNamed B.named
  have hlocks := B.notSynchronized
  have hS : va_S (g_bA 7 x) s.heap s.heap [] := va_S.rf
  have hl := lv_entry ([.ref (x 0), .int p0]) (n := 2) (Nat.le_of_ble_eq_true rfl)
  rw [lg_entry_eq]
  generalize (lg_sl ([.ref (x 0), .int p0]) ++ List.replicate (2 - (lg_sl ([.ref (x 0), .int p0])).length) Slot.unset).toArray = ls at hl ⊢
  have hl : lv_has ls 2 [(0, .ref (x 0)), (1, .int p0)] := hl
  obtain ⟨F, hF⟩ : ∃ F, f_X7_start u p0 = F := ⟨_, rfl⟩
  rw [hF]
  refine lv_aload_n hx hb dX7_start_0 rfl (lv_at hl 0 rfl) ?_
  refine lv_iload_n hx hb dX7_start_1 rfl (lv_at hl 1 rfl) ?_
  refine lv_sipush (v := 2048) hx hb dX7_start_2 (by decide) ?_
  refine g_Si hx hb hml hown hg (c_X7_out l dC dI cI cZ x hi _ _ _) cs_X7_33 rfl rfl ⟨Nat.le_of_ble_eq_true rfl, Nat.le_of_ble_eq_true rfl⟩ hK hP hS rfl hl.1 rfl (Nat.le_of_ble_eq_true rfl) dX7_start_5 ⟨Nat.zero_le _, Nat.zero_le _⟩ (fun H locs hP hS => ?_)
  refine lv_iconst (v := 1) hx hb dX7_start_8 (by decide) ?_
  refine g_Vi hx hb hml hown hg (c_X7_fails l dC dI cI cZ x hi _ _ _) cs_X7_37 rfl rfl ⟨Nat.le_of_ble_eq_true rfl, Nat.le_of_ble_eq_true rfl⟩ hK hP hS (q0 := 0) rfl rfl rfl hl.1 rfl (Nat.le_of_ble_eq_true rfl) dX7_start_9 ⟨Nat.zero_le _, Nat.zero_le _⟩ (fun H locs hP hS => ?_)
  refine lv_if_eq (tgt := 16) hx hb dX7_start_12 (by decide) (fun c1 => ?_) (fun c1 => ?_)
  · have hF := (if_pos c1).symm.trans hF
    refine lv_aload_n hx hb dX7_start_16 rfl (lv_at hl 0 rfl) ?_
    refine ge_X7_v hx hb hg hown kf_X7_16 hK hP dX7_start_17 ?_
    refine lv_bipush (v := 17) hx hb dX7_start_20 (by decide) ?_
    refine lv_iload_n hx hb dX7_start_22 rfl (lv_at hl 1 rfl) ?_
    refine mac_v 17 (by decide) hi hx hb hK hP hS dX7_start_23 (fun H locs hP hS => ?_)
    refine lv_aload_n hx hb dX7_start_24 rfl (lv_at hl 0 rfl) ?_
    refine ge_X7_v hx hb hg hown kf_X7_16 hK hP dX7_start_25 ?_
    refine lv_bipush (v := 18) hx hb dX7_start_28 (by decide) ?_
    refine lv_iconst (v := 0) hx hb dX7_start_30 (by decide) ?_
    refine mac_v 18 (by decide) hi hx hb hK hP hS dX7_start_31 (fun H locs hP hS => ?_)
    exact g_vret hx hb hr hlocks hP hS dX7_start_32 hF
  · have hF := (if_neg c1).symm.trans hF
    exact g_vret hx hb hr hlocks hP hS dX7_start_15 hF
