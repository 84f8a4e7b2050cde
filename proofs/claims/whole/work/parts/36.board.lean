def f_X6_peek (u : BS) (p0 : Int32) : Int32 :=
  if p0 < 0 then
    (-1)
  else
    if p0 ≤ 2047 then
      (f_X2_read u p0)
    else
      (-1)
set_option maxHeartbeats 4000000 in
set_option maxRecDepth 100000 in
theorem c_X6_peek (l : Launch) (dC : Nat → ClassId) (dI : Nat → Nat → Nat) (cI cZ : ClassId) (x : Nat → Nat) (hi : g_inj 13 x) (u : BS) (p0 : Int32) : g_Mi l yX6_peek (.code yX6_peek cX6_peek 2 (some .int)) { frames := 1, cells := 0, slots := 0, locals := 21 } (dC, dI) vwCl (tysW cI cZ) (wB x cI cZ) (g_bA 13 x) u [.ref (x 0), .int p0] (f_X6_peek u p0) u := by
  refine Met.ofW (cc := cX6_peek) (maxL := 2) (ret := (some .int)) (by decide) rfl ?_
  intro p e s m args below meth c s₁ B hml hv
  obtain ⟨rfl, hP, hK⟩ := hv
  have hx := B.exec
  have hb := B.bytes
  have hr := B.returns
  have hts := atoms_spec (ws := .code yX6_peek cX6_peek 2 (some .int) :: gtbl) B.pre
  have hg : ∀ w ∈ gtbl, w.before _ s = true := fun w h => hts w (List.mem_cons_of_mem _ h)
  have hown : s.vm.findClass RX6 = some m.cls := findClass_of_methodNamed B.named
  have hlocks := B.notSynchronized
  have hS : va_S (g_bA 13 x) s.heap s.heap [] := va_S.rf
  have hl := lv_entry ([.ref (x 0), .int p0]) (n := 2) (Nat.le_of_ble_eq_true rfl)
  rw [lg_entry_eq]
  generalize (lg_sl ([.ref (x 0), .int p0]) ++ List.replicate (2 - (lg_sl ([.ref (x 0), .int p0])).length) Slot.unset).toArray = ls at hl ⊢
  have hl : lv_has ls 2 [(0, .ref (x 0)), (1, .int p0)] := hl
  obtain ⟨F, hF⟩ : ∃ F, f_X6_peek u p0 = F := ⟨_, rfl⟩
  rw [hF]
  refine lv_iload_n hx hb dX6_peek_0 rfl (lv_at hl 1 rfl) ?_
  refine lv_if_lt (tgt := 11) hx hb dX6_peek_1 (by decide) (fun c1 => ?_) (fun c1 => ?_)
  · have hF := (if_pos c1).symm.trans hF
    refine lv_iconst (v := (-1)) hx hb dX6_peek_11 (by decide) ?_
    exact g_iret hx hb hr hlocks hP hS dX6_peek_12 hF rfl
  · have hF := (if_neg c1).symm.trans hF
    refine lv_iload_n hx hb dX6_peek_4 rfl (lv_at hl 1 rfl) ?_
    refine lv_sipush (v := 2047) hx hb dX6_peek_5 (by decide) ?_
    refine lv_icmp_le (tgt := 13) hx hb dX6_peek_8 (by decide) (fun c2 => ?_) (fun c2 => ?_)
    · have hF := (if_pos c2).symm.trans hF
      refine lv_aload_n hx hb dX6_peek_13 rfl (lv_at hl 0 rfl) ?_
      refine ge_X6_memory hx hb hg hown kf_X6_10 hK hP dX6_peek_14 ?_
      refine lv_iload_n hx hb dX6_peek_17 rfl (lv_at hl 1 rfl) ?_
      refine g_Vi hx hb hml hown hg (c_X2_read l dC dI cI cZ x hi _ _) cs_X6_70 rfl rfl ⟨Nat.le_of_ble_eq_true rfl, Nat.le_of_ble_eq_true rfl⟩ hK hP hS (q0 := 1) rfl rfl rfl hl.1 rfl (Nat.le_of_ble_eq_true rfl) dX6_peek_18 ⟨Nat.zero_le _, Nat.zero_le _⟩ (fun H locs hP hS => ?_)
      exact g_iret hx hb hr hlocks hP hS dX6_peek_21 hF rfl
    · have hF := (if_neg c2).symm.trans hF
      refine lv_iconst (v := (-1)) hx hb dX6_peek_11 (by decide) ?_
      exact g_iret hx hb hr hlocks hP hS dX6_peek_12 hF rfl
def f_X6_fetchRow_L : Nat → BS → Int32 → BS
  | 0, u, _ => u
  | n + 1, u, a1 =>
    if 8 ≤ a1 then
      let r1 : BS := f_X3_noteFetch u
      let r2 : BS := f_X3_pass r1 8
      let r3 : BS := f_X4_wake r2
      r3
    else
      let r4 : Int32 × BS := f_X4_takeByte u
      let r5 : BS := f_X3_keep r4.2 a1 r4.1
      let t6 : Int32 := a1 + Int32.ofInt 1
      f_X6_fetchRow_L n r5 t6
def ok_X6_fetchRow_L : Nat → BS → Int32 → Prop
  | 0, _, _ => False
  | n + 1, u, a1 =>
    if 8 ≤ a1 then
      let r1 : BS := f_X3_noteFetch u
      let r2 : BS := f_X3_pass r1 8
      let r3 : BS := f_X4_wake r2
      True
    else
      let r4 : Int32 × BS := f_X4_takeByte u
      ok_X3_keep r4.2 a1 r4.1 ∧
      let r5 : BS := f_X3_keep r4.2 a1 r4.1
      let t6 : Int32 := a1 + Int32.ofInt 1
      ok_X6_fetchRow_L n r5 t6
def f_X6_fetchRow (u : BS) : BS :=
  f_X6_fetchRow_L 9 u 0
def ok_X6_fetchRow (u : BS) : Prop :=
  ok_X6_fetchRow_L 9 u 0
set_option maxHeartbeats 4000000 in
set_option maxRecDepth 100000 in
theorem c_X6_fetchRow (l : Launch) (dC : Nat → ClassId) (dI : Nat → Nat → Nat) (cI cZ : ClassId) (x : Nat → Nat) (hi : g_inj 13 x) (u : BS) (hok : ok_X6_fetchRow u) : g_Mv l yX6_fetchRow (.code yX6_fetchRow cX6_fetchRow 2 none) { frames := 3, cells := 0, slots := 0, locals := 63 } (dC, dI) vwCl (tysW cI cZ) (wB x cI cZ) (g_bA 13 x) u [.ref (x 0)] (f_X6_fetchRow u) := by
  refine Met.ofW (cc := cX6_fetchRow) (maxL := 2) (ret := none) (by decide) rfl ?_
  intro p e s m args below meth c s₁ B hml hv
  obtain ⟨rfl, hP, hK⟩ := hv
  have hx := B.exec
  have hb := B.bytes
  have hr := B.returns
  have hts := atoms_spec (ws := .code yX6_fetchRow cX6_fetchRow 2 none :: gtbl) B.pre
  have hg : ∀ w ∈ gtbl, w.before _ s = true := fun w h => hts w (List.mem_cons_of_mem _ h)
  have hown : s.vm.findClass RX6 = some m.cls := findClass_of_methodNamed B.named
  have hlocks := B.notSynchronized
  have hS : va_S (g_bA 13 x) s.heap s.heap [] := va_S.rf
  have hl := lv_entry ([.ref (x 0)]) (n := 2) (Nat.le_of_ble_eq_true rfl)
  rw [lg_entry_eq]
  generalize (lg_sl ([.ref (x 0)]) ++ List.replicate (2 - (lg_sl ([.ref (x 0)])).length) Slot.unset).toArray = ls at hl ⊢
  have hl : lv_has ls 2 [(0, .ref (x 0))] := hl
  obtain ⟨F, hF⟩ : ∃ F, f_X6_fetchRow u = F := ⟨_, rfl⟩
  rw [hF]
  have loop : ∀ (n : Nat), (∀ (u : BS) (a1 : Int32) (H : Heap) (locs : List Loc) (ls : Array Slot), f_X6_fetchRow_L n u a1 = F → ok_X6_fetchRow_L n u a1 → va_P (dC, dI) vwCl (wB x cI cZ u) H → va_S (g_bA 13 x) s.heap H locs → lv_has ls 2 [(0, .ref (x 0)), (1, .int a1)] → W p l e (headSpec (.code yX6_fetchRow cX6_fetchRow 2 none :: gtbl) { frames := 3, cells := 0, slots := 0, locals := 63 }).room s m ([.ref (x 0)] : List Value).toArray below meth c H locs 0 0 (MQ below (va_Qv (fun v1 => v1 = F) (fun v1 t => va_P (dC, dI) vwCl (wB x cI cZ v1) t.heap) (g_bA 13 x)) ([.ref (x 0)] : List Value).toArray s 0 0 (g_bA 13 x)) (F0 m 2 ls [])) := by
    intro n
    induction n with
    | zero => intro u a1 H locs ls hF hok; exact hok.elim
    | succ n ih =>
      intro u a1 H locs ls hF hok hP hS hl
      refine lv_iload_n hx hb dX6_fetchRow_2 rfl (lv_at hl 1 rfl) ?_
      refine lv_bipush (v := 8) hx hb dX6_fetchRow_3 (by decide) ?_
      refine lv_icmp_ge (tgt := 29) hx hb dX6_fetchRow_5 (by decide) (fun c1 => ?_) (fun c1 => ?_)
      · have hF := (if_pos c1).symm.trans hF
        have hok := Eq.mp (if_pos c1) hok
        refine lv_aload_n hx hb dX6_fetchRow_29 rfl (lv_at hl 0 rfl) ?_
        refine ge_X6_picture hx hb hg hown kf_X6_35 hK hP dX6_fetchRow_30 ?_
        refine g_Vv hx hb hml hown hg (c_X3_noteFetch l dC dI cI cZ x hi _) cs_X6_179 rfl rfl ⟨Nat.le_of_ble_eq_true rfl, Nat.le_of_ble_eq_true rfl⟩ hK hP hS (q0 := 6) rfl rfl rfl hl.1 rfl (Nat.le_of_ble_eq_true rfl) dX6_fetchRow_33 ⟨Nat.zero_le _, Nat.zero_le _⟩ (fun H locs hP hS => ?_)
        refine lv_aload_n hx hb dX6_fetchRow_36 rfl (lv_at hl 0 rfl) ?_
        refine ge_X6_picture hx hb hg hown kf_X6_35 hK hP dX6_fetchRow_37 ?_
        refine lv_bipush (v := 8) hx hb dX6_fetchRow_40 (by decide) ?_
        refine g_Vv hx hb hml hown hg (c_X3_pass l dC dI cI cZ x hi _ _) cs_X6_104 rfl rfl ⟨Nat.le_of_ble_eq_true rfl, Nat.le_of_ble_eq_true rfl⟩ hK hP hS (q0 := 6) rfl rfl rfl hl.1 rfl (Nat.le_of_ble_eq_true rfl) dX6_fetchRow_42 ⟨Nat.zero_le _, Nat.zero_le _⟩ (fun H locs hP hS => ?_)
        refine lv_aload_n hx hb dX6_fetchRow_45 rfl (lv_at hl 0 rfl) ?_
        refine ge_X6_processor hx hb hg hown kf_X6_44 hK hP dX6_fetchRow_46 ?_
        refine g_Vv hx hb hml hown hg (c_X4_wake l dC dI cI cZ x hi _) cs_X6_182 rfl rfl ⟨Nat.le_of_ble_eq_true rfl, Nat.le_of_ble_eq_true rfl⟩ hK hP hS (q0 := 8) rfl rfl rfl hl.1 rfl (Nat.le_of_ble_eq_true rfl) dX6_fetchRow_49 ⟨Nat.zero_le _, Nat.zero_le _⟩ (fun H locs hP hS => ?_)
        exact g_vret hx hb hr hlocks hP hS dX6_fetchRow_52 hF
      · have hF := (if_neg c1).symm.trans hF
        have hok := Eq.mp (if_neg c1) hok
        refine lv_aload_n hx hb dX6_fetchRow_8 rfl (lv_at hl 0 rfl) ?_
        refine ge_X6_picture hx hb hg hown kf_X6_35 hK hP dX6_fetchRow_9 ?_
        refine lv_iload_n hx hb dX6_fetchRow_12 rfl (lv_at hl 1 rfl) ?_
        refine lv_aload_n hx hb dX6_fetchRow_13 rfl (lv_at hl 0 rfl) ?_
        refine ge_X6_processor hx hb hg hown kf_X6_44 hK hP dX6_fetchRow_14 ?_
        refine g_Vi hx hb hml hown hg (c_X4_takeByte l dC dI cI cZ x hi _) cs_X6_173 rfl rfl ⟨Nat.le_of_ble_eq_true rfl, Nat.le_of_ble_eq_true rfl⟩ hK hP hS (q0 := 8) rfl rfl rfl hl.1 rfl (Nat.le_of_ble_eq_true rfl) dX6_fetchRow_17 ⟨Nat.zero_le _, Nat.zero_le _⟩ (fun H locs hP hS => ?_)
        obtain ⟨c2, hok⟩ := hok
        refine g_Vv hx hb hml hown hg (c_X3_keep l dC dI cI cZ x hi _ _ _ c2) cs_X6_176 rfl rfl ⟨Nat.le_of_ble_eq_true rfl, Nat.le_of_ble_eq_true rfl⟩ hK hP hS (q0 := 6) rfl rfl rfl hl.1 rfl (Nat.le_of_ble_eq_true rfl) dX6_fetchRow_20 ⟨Nat.zero_le _, Nat.zero_le _⟩ (fun H locs hP hS => ?_)
        refine lv_iinc hx hb dX6_fetchRow_23 hl (k := 1) rfl rfl (by decide) rfl (fun ls hl => ?_)
        have hl : lv_has ls 2 [(1, _), (0, _)] := hl
        refine lv_goto (tgt := 2) hx hb dX6_fetchRow_26 (by decide) ?_
        exact ih _ _ _ _ _ hF hok hP hS (lv_sub hl [1, 0] rfl)
  refine lv_iconst (v := 0) hx hb dX6_fetchRow_0 (by decide) ?_
  refine lv_istore_n hx hb dX6_fetchRow_1 rfl hl (by decide) rfl (fun ls hl => ?_)
  have hl : lv_has ls 2 [(1, _), (0, _)] := hl
  exact (loop 9) _ _ _ _ _ hF hok hP hS (lv_sub hl [1, 0] rfl)
def f_X6_letVideoAct (u : BS) : Int32 × BS :=
  if (f_X3_rowIsDue u) = 0 then
    if (f_X3_interruptIsDue u) = 0 then
      (0, u)
    else
      if (f_X4_allowsInterrupt u) = 0 then
        (0, u)
      else
        let r1 : BS := f_X4_interrupt u
        let r2 : BS := f_X3_noteInterrupt r1
        let r3 : BS := f_X3_pass r2 1
        (1, r3)
  else
    let r4 : BS := f_X6_fetchRow u
    (8, r4)
def ok_X6_letVideoAct (u : BS) : Prop :=
  if (f_X3_rowIsDue u) = 0 then
    if (f_X3_interruptIsDue u) = 0 then
      True
    else
      if (f_X4_allowsInterrupt u) = 0 then
        True
      else
        let r1 : BS := f_X4_interrupt u
        let r2 : BS := f_X3_noteInterrupt r1
        let r3 : BS := f_X3_pass r2 1
        True
  else
    ok_X6_fetchRow u ∧
    let r4 : BS := f_X6_fetchRow u
    True
set_option maxHeartbeats 4000000 in
set_option maxRecDepth 100000 in
theorem c_X6_letVideoAct (l : Launch) (dC : Nat → ClassId) (dI : Nat → Nat → Nat) (cI cZ : ClassId) (x : Nat → Nat) (hi : g_inj 13 x) (u : BS) (hok : ok_X6_letVideoAct u) : g_Mi l yX6_letVideoAct (.code yX6_letVideoAct cX6_letVideoAct 1 (some .int)) { frames := 4, cells := 0, slots := 0, locals := 84 } (dC, dI) vwCl (tysW cI cZ) (wB x cI cZ) (g_bA 13 x) u [.ref (x 0)] (f_X6_letVideoAct u).1 (f_X6_letVideoAct u).2 := by
  refine Met.ofW (cc := cX6_letVideoAct) (maxL := 1) (ret := (some .int)) (by decide) rfl ?_
  intro p e s m args below meth c s₁ B hml hv
  obtain ⟨rfl, hP, hK⟩ := hv
  have hx := B.exec
  have hb := B.bytes
  have hr := B.returns
  have hts := atoms_spec (ws := .code yX6_letVideoAct cX6_letVideoAct 1 (some .int) :: gtbl) B.pre
  have hg : ∀ w ∈ gtbl, w.before _ s = true := fun w h => hts w (List.mem_cons_of_mem _ h)
  have hown : s.vm.findClass RX6 = some m.cls := findClass_of_methodNamed B.named
  have hlocks := B.notSynchronized
  have hS : va_S (g_bA 13 x) s.heap s.heap [] := va_S.rf
  have hl := lv_entry ([.ref (x 0)]) (n := 1) (Nat.le_of_ble_eq_true rfl)
  rw [lg_entry_eq]
  generalize (lg_sl ([.ref (x 0)]) ++ List.replicate (1 - (lg_sl ([.ref (x 0)])).length) Slot.unset).toArray = ls at hl ⊢
  have hl : lv_has ls 1 [(0, .ref (x 0))] := hl
  obtain ⟨F, hF⟩ : ∃ F, f_X6_letVideoAct u = F := ⟨_, rfl⟩
  rw [hF]
  refine lv_aload_n hx hb dX6_letVideoAct_0 rfl (lv_at hl 0 rfl) ?_
  refine ge_X6_picture hx hb hg hown kf_X6_35 hK hP dX6_letVideoAct_1 ?_
  refine g_Vi hx hb hml hown hg (c_X3_rowIsDue l dC dI cI cZ x hi _) cs_X6_154 rfl rfl ⟨Nat.le_of_ble_eq_true rfl, Nat.le_of_ble_eq_true rfl⟩ hK hP hS (q0 := 6) rfl rfl rfl hl.1 rfl (Nat.le_of_ble_eq_true rfl) dX6_letVideoAct_4 ⟨Nat.zero_le _, Nat.zero_le _⟩ (fun H locs hP hS => ?_)
  refine lv_if_eq (tgt := 17) hx hb dX6_letVideoAct_7 (by decide) (fun c1 => ?_) (fun c1 => ?_)
  · have hF := (if_pos c1).symm.trans hF
    have hok := Eq.mp (if_pos c1) hok
    refine lv_aload_n hx hb dX6_letVideoAct_17 rfl (lv_at hl 0 rfl) ?_
    refine ge_X6_picture hx hb hg hown kf_X6_35 hK hP dX6_letVideoAct_18 ?_
    refine g_Vi hx hb hml hown hg (c_X3_interruptIsDue l dC dI cI cZ x hi _) cs_X6_161 rfl rfl ⟨Nat.le_of_ble_eq_true rfl, Nat.le_of_ble_eq_true rfl⟩ hK hP hS (q0 := 6) rfl rfl rfl hl.1 rfl (Nat.le_of_ble_eq_true rfl) dX6_letVideoAct_21 ⟨Nat.zero_le _, Nat.zero_le _⟩ (fun H locs hP hS => ?_)
    refine lv_if_eq (tgt := 61) hx hb dX6_letVideoAct_24 (by decide) (fun c2 => ?_) (fun c2 => ?_)
    · have hF := (if_pos c2).symm.trans hF
      have hok := Eq.mp (if_pos c2) hok
      refine lv_iconst (v := 0) hx hb dX6_letVideoAct_61 (by decide) ?_
      have hF : (_, _) = F := hF
      exact g_iret hx hb hr hlocks hP hS dX6_letVideoAct_62 (g_p1 hF) (g_p2 hF)
    · have hF := (if_neg c2).symm.trans hF
      have hok := Eq.mp (if_neg c2) hok
      refine lv_aload_n hx hb dX6_letVideoAct_27 rfl (lv_at hl 0 rfl) ?_
      refine ge_X6_processor hx hb hg hown kf_X6_44 hK hP dX6_letVideoAct_28 ?_
      refine g_Vi hx hb hml hown hg (c_X4_allowsInterrupt l dC dI cI cZ x hi _) cs_X6_164 rfl rfl ⟨Nat.le_of_ble_eq_true rfl, Nat.le_of_ble_eq_true rfl⟩ hK hP hS (q0 := 8) rfl rfl rfl hl.1 rfl (Nat.le_of_ble_eq_true rfl) dX6_letVideoAct_31 ⟨Nat.zero_le _, Nat.zero_le _⟩ (fun H locs hP hS => ?_)
      refine lv_if_eq (tgt := 61) hx hb dX6_letVideoAct_34 (by decide) (fun c3 => ?_) (fun c3 => ?_)
      · have hF := (if_pos c3).symm.trans hF
        have hok := Eq.mp (if_pos c3) hok
        refine lv_iconst (v := 0) hx hb dX6_letVideoAct_61 (by decide) ?_
        have hF : (_, _) = F := hF
        exact g_iret hx hb hr hlocks hP hS dX6_letVideoAct_62 (g_p1 hF) (g_p2 hF)
      · have hF := (if_neg c3).symm.trans hF
        have hok := Eq.mp (if_neg c3) hok
        refine lv_aload_n hx hb dX6_letVideoAct_37 rfl (lv_at hl 0 rfl) ?_
        refine ge_X6_processor hx hb hg hown kf_X6_44 hK hP dX6_letVideoAct_38 ?_
        refine g_Vv hx hb hml hown hg (c_X4_interrupt l dC dI cI cZ x hi _) cs_X6_167 rfl rfl ⟨Nat.le_of_ble_eq_true rfl, Nat.le_of_ble_eq_true rfl⟩ hK hP hS (q0 := 8) rfl rfl rfl hl.1 rfl (Nat.le_of_ble_eq_true rfl) dX6_letVideoAct_41 ⟨Nat.zero_le _, Nat.zero_le _⟩ (fun H locs hP hS => ?_)
        refine lv_aload_n hx hb dX6_letVideoAct_44 rfl (lv_at hl 0 rfl) ?_
        refine ge_X6_picture hx hb hg hown kf_X6_35 hK hP dX6_letVideoAct_45 ?_
        refine g_Vv hx hb hml hown hg (c_X3_noteInterrupt l dC dI cI cZ x hi _) cs_X6_170 rfl rfl ⟨Nat.le_of_ble_eq_true rfl, Nat.le_of_ble_eq_true rfl⟩ hK hP hS (q0 := 6) rfl rfl rfl hl.1 rfl (Nat.le_of_ble_eq_true rfl) dX6_letVideoAct_48 ⟨Nat.zero_le _, Nat.zero_le _⟩ (fun H locs hP hS => ?_)
        refine lv_aload_n hx hb dX6_letVideoAct_51 rfl (lv_at hl 0 rfl) ?_
        refine ge_X6_picture hx hb hg hown kf_X6_35 hK hP dX6_letVideoAct_52 ?_
        refine lv_iconst (v := 1) hx hb dX6_letVideoAct_55 (by decide) ?_
        refine g_Vv hx hb hml hown hg (c_X3_pass l dC dI cI cZ x hi _ _) cs_X6_104 rfl rfl ⟨Nat.le_of_ble_eq_true rfl, Nat.le_of_ble_eq_true rfl⟩ hK hP hS (q0 := 6) rfl rfl rfl hl.1 rfl (Nat.le_of_ble_eq_true rfl) dX6_letVideoAct_56 ⟨Nat.zero_le _, Nat.zero_le _⟩ (fun H locs hP hS => ?_)
        refine lv_iconst (v := 1) hx hb dX6_letVideoAct_59 (by decide) ?_
        have hF : (_, _) = F := hF
        exact g_iret hx hb hr hlocks hP hS dX6_letVideoAct_60 (g_p1 hF) (g_p2 hF)
  · have hF := (if_neg c1).symm.trans hF
    have hok := Eq.mp (if_neg c1) hok
    refine lv_aload_n hx hb dX6_letVideoAct_10 rfl (lv_at hl 0 rfl) ?_
    obtain ⟨c4, hok⟩ := hok
    refine g_Vv hx hb hml hown hg (c_X6_fetchRow l dC dI cI cZ x hi _ c4) cs_X6_158 rfl rfl ⟨Nat.le_of_ble_eq_true rfl, Nat.le_of_ble_eq_true rfl⟩ hK hP hS (q0 := 0) rfl rfl rfl hl.1 rfl (Nat.le_of_ble_eq_true rfl) dX6_letVideoAct_11 ⟨Nat.zero_le _, Nat.zero_le _⟩ (fun H locs hP hS => ?_)
    refine lv_bipush (v := 8) hx hb dX6_letVideoAct_14 (by decide) ?_
    have hF : (_, _) = F := hF
    exact g_iret hx hb hr hlocks hP hS dX6_letVideoAct_16 (g_p1 hF) (g_p2 hF)
