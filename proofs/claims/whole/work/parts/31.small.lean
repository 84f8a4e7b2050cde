def f_X0_move (u : BS) (p0 : Int32) (p1 : Int32) : BS :=
  let u1 : BS := bs_keys u (upd (bq_keys u) ((p0 &&& 15)).toNatClampNeg (vp_nar .boolean p1))
  u1
set_option maxHeartbeats 4000000 in
set_option maxRecDepth 100000 in
theorem c_X0_move (l : Launch) (dC : Nat → ClassId) (dI : Nat → Nat → Nat) (cI cZ : ClassId) (x : Nat → Nat) (hi : g_inj 13 x) (u : BS) (p0 : Int32) (p1 : Int32) : g_Mv l yX0_move (.code yX0_move cX0_move 3 none) { frames := 0, cells := 0, slots := 0, locals := 0 } (dC, dI) vwCl (tysW cI cZ) (wB x cI cZ) (g_bA 13 x) u [.ref (x 3), .int p0, .int p1] (f_X0_move u p0 p1) := by
  refine Met.ofW (cc := cX0_move) (maxL := 3) (ret := none) (by decide) rfl ?_
  intro p e s m args below meth c s₁ B hml hv
  obtain ⟨rfl, hP, hK⟩ := hv
  have hx := B.exec
  have hb := B.bytes
  have hr := B.returns
  have hts := atoms_spec (ws := .code yX0_move cX0_move 3 none :: gtbl) B.pre
  have hg : ∀ w ∈ gtbl, w.before _ s = true := fun w h => hts w (List.mem_cons_of_mem _ h)
  have hown : s.vm.findClass RX0 = some m.cls := findClass_of_methodNamed B.named
  have hlocks := B.notSynchronized
  have hS : va_S (g_bA 13 x) s.heap s.heap [] := va_S.rf
  have hl := lv_entry ([.ref (x 3), .int p0, .int p1]) (n := 3) (Nat.le_of_ble_eq_true rfl)
  rw [lg_entry_eq]
  generalize (lg_sl ([.ref (x 3), .int p0, .int p1]) ++ List.replicate (3 - (lg_sl ([.ref (x 3), .int p0, .int p1])).length) Slot.unset).toArray = ls at hl ⊢
  have hl : lv_has ls 3 [(0, .ref (x 3)), (1, .int p0), (2, .int p1)] := hl
  obtain ⟨F, hF⟩ : ∃ F, f_X0_move u p0 p1 = F := ⟨_, rfl⟩
  rw [hF]
  refine lv_aload_n hx hb dX0_move_0 rfl (lv_at hl 0 rfl) ?_
  refine ge_X0_down hx hb hg hown kf_X0_9 hK hP dX0_move_1 ?_
  refine lv_iload_n hx hb dX0_move_4 rfl (lv_at hl 1 rfl) ?_
  refine lv_bipush (v := 15) hx hb dX0_move_5 (by decide) ?_
  refine lv_iand hx hb dX0_move_7 ?_
  refine lv_iload_n hx hb dX0_move_8 rfl (lv_at hl 2 rfl) ?_
  refine ba_keys hi hx hb hK hP hS (pk_andIn _ 4 rfl (by decide)) dX0_move_9 (fun H locs hP hS => ?_)
  exact g_vret hx hb hr hlocks hP hS dX0_move_10 hF
def f_X0_isDown (u : BS) (p0 : Int32) : Int32 :=
  (vp_nar .boolean (bq_keys u ((p0 &&& 15)).toNatClampNeg))
set_option maxHeartbeats 4000000 in
set_option maxRecDepth 100000 in
theorem c_X0_isDown (l : Launch) (dC : Nat → ClassId) (dI : Nat → Nat → Nat) (cI cZ : ClassId) (x : Nat → Nat) (hi : g_inj 13 x) (u : BS) (p0 : Int32) : g_Mi l yX0_isDown (.code yX0_isDown cX0_isDown 2 (some .boolean)) { frames := 0, cells := 0, slots := 0, locals := 0 } (dC, dI) vwCl (tysW cI cZ) (wB x cI cZ) (g_bA 13 x) u [.ref (x 3), .int p0] (f_X0_isDown u p0) u := by
  refine Met.ofW (cc := cX0_isDown) (maxL := 2) (ret := (some .boolean)) (by decide) rfl ?_
  intro p e s m args below meth c s₁ B hml hv
  obtain ⟨rfl, hP, hK⟩ := hv
  have hx := B.exec
  have hb := B.bytes
  have hr := B.returns
  have hts := atoms_spec (ws := .code yX0_isDown cX0_isDown 2 (some .boolean) :: gtbl) B.pre
  have hg : ∀ w ∈ gtbl, w.before _ s = true := fun w h => hts w (List.mem_cons_of_mem _ h)
  have hown : s.vm.findClass RX0 = some m.cls := findClass_of_methodNamed B.named
  have hlocks := B.notSynchronized
  have hS : va_S (g_bA 13 x) s.heap s.heap [] := va_S.rf
  have hl := lv_entry ([.ref (x 3), .int p0]) (n := 2) (Nat.le_of_ble_eq_true rfl)
  rw [lg_entry_eq]
  generalize (lg_sl ([.ref (x 3), .int p0]) ++ List.replicate (2 - (lg_sl ([.ref (x 3), .int p0])).length) Slot.unset).toArray = ls at hl ⊢
  have hl : lv_has ls 2 [(0, .ref (x 3)), (1, .int p0)] := hl
  obtain ⟨F, hF⟩ : ∃ F, f_X0_isDown u p0 = F := ⟨_, rfl⟩
  rw [hF]
  refine lv_aload_n hx hb dX0_isDown_0 rfl (lv_at hl 0 rfl) ?_
  refine ge_X0_down hx hb hg hown kf_X0_9 hK hP dX0_isDown_1 ?_
  refine lv_iload_n hx hb dX0_isDown_4 rfl (lv_at hl 1 rfl) ?_
  refine lv_bipush (v := 15) hx hb dX0_isDown_5 (by decide) ?_
  refine lv_iand hx hb dX0_isDown_7 ?_
  refine bl_keys hx hb hK hP (pk_andIn _ 4 rfl (by decide)) dX0_isDown_8 ?_
  exact g_zretN hx hb hr hlocks hP hS dX0_isDown_9 hF rfl
def f_X0_least_L : Nat → BS → Int32 → Int32
  | 0, u, _ => 0
  | n + 1, u, a1 =>
    if 16 ≤ a1 then
      (-1)
    else
      if (bq_keys u (a1).toNatClampNeg) = 0 then
        let t1 : Int32 := a1 + Int32.ofInt 1
        f_X0_least_L n u t1
      else
        a1
def ok_X0_least_L : Nat → BS → Int32 → Prop
  | 0, _, _ => False
  | n + 1, u, a1 =>
    if 16 ≤ a1 then
      True
    else
      vp_in a1 16 ∧
      if (bq_keys u (a1).toNatClampNeg) = 0 then
        let t1 : Int32 := a1 + Int32.ofInt 1
        ok_X0_least_L n u t1
      else
        True
def f_X0_least (u : BS) : Int32 :=
  f_X0_least_L 17 u 0
def ok_X0_least (u : BS) : Prop :=
  ok_X0_least_L 17 u 0
set_option maxHeartbeats 4000000 in
set_option maxRecDepth 100000 in
theorem c_X0_least (l : Launch) (dC : Nat → ClassId) (dI : Nat → Nat → Nat) (cI cZ : ClassId) (x : Nat → Nat) (hi : g_inj 13 x) (u : BS) (hok : ok_X0_least u) : g_Mi l yX0_least (.code yX0_least cX0_least 2 (some .int)) { frames := 0, cells := 0, slots := 0, locals := 0 } (dC, dI) vwCl (tysW cI cZ) (wB x cI cZ) (g_bA 13 x) u [.ref (x 3)] (f_X0_least u) u := by
  refine Met.ofW (cc := cX0_least) (maxL := 2) (ret := (some .int)) (by decide) rfl ?_
  intro p e s m args below meth c s₁ B hml hv
  obtain ⟨rfl, hP, hK⟩ := hv
  have hx := B.exec
  have hb := B.bytes
  have hr := B.returns
  have hts := atoms_spec (ws := .code yX0_least cX0_least 2 (some .int) :: gtbl) B.pre
  have hg : ∀ w ∈ gtbl, w.before _ s = true := fun w h => hts w (List.mem_cons_of_mem _ h)
  have hown : s.vm.findClass RX0 = some m.cls := findClass_of_methodNamed B.named
  have hlocks := B.notSynchronized
  have hS : va_S (g_bA 13 x) s.heap s.heap [] := va_S.rf
  have hl := lv_entry ([.ref (x 3)]) (n := 2) (Nat.le_of_ble_eq_true rfl)
  rw [lg_entry_eq]
  generalize (lg_sl ([.ref (x 3)]) ++ List.replicate (2 - (lg_sl ([.ref (x 3)])).length) Slot.unset).toArray = ls at hl ⊢
  have hl : lv_has ls 2 [(0, .ref (x 3))] := hl
  obtain ⟨F, hF⟩ : ∃ F, f_X0_least u = F := ⟨_, rfl⟩
  rw [hF]
  have loop : ∀ (n : Nat), (∀ (a1 : Int32) (H : Heap) (locs : List Loc) (ls : Array Slot), f_X0_least_L n u a1 = F → ok_X0_least_L n u a1 → va_P (dC, dI) vwCl (wB x cI cZ u) H → va_S (g_bA 13 x) s.heap H locs → lv_has ls 2 [(0, .ref (x 3)), (1, .int a1)] → W p l e (headSpec (.code yX0_least cX0_least 2 (some .int) :: gtbl) { frames := 0, cells := 0, slots := 0, locals := 0 }).room s m ([.ref (x 3)] : List Value).toArray below meth c H locs 0 0 (MQ below (va_Qi (fun r1 v1 => r1 = F ∧ v1 = u) (fun v1 t => va_P (dC, dI) vwCl (wB x cI cZ v1) t.heap) (g_bA 13 x)) ([.ref (x 3)] : List Value).toArray s 0 0 (g_bA 13 x)) (F0 m 2 ls [])) := by
    intro n
    induction n with
    | zero => intro a1 H locs ls hF hok; exact hok.elim
    | succ n ih =>
      intro a1 H locs ls hF hok hP hS hl
      refine lv_iload_n hx hb dX0_least_2 rfl (lv_at hl 1 rfl) ?_
      refine lv_bipush (v := 16) hx hb dX0_least_3 (by decide) ?_
      refine lv_icmp_ge (tgt := 25) hx hb dX0_least_5 (by decide) (fun c1 => ?_) (fun c1 => ?_)
      · have hF := (if_pos c1).symm.trans hF
        have hok := Eq.mp (if_pos c1) hok
        refine lv_iconst (v := (-1)) hx hb dX0_least_25 (by decide) ?_
        exact g_iret hx hb hr hlocks hP hS dX0_least_26 hF rfl
      · have hF := (if_neg c1).symm.trans hF
        have hok := Eq.mp (if_neg c1) hok
        refine lv_aload_n hx hb dX0_least_8 rfl (lv_at hl 0 rfl) ?_
        refine ge_X0_down hx hb hg hown kf_X0_9 hK hP dX0_least_9 ?_
        refine lv_iload_n hx hb dX0_least_12 rfl (lv_at hl 1 rfl) ?_
        obtain ⟨c2, hok⟩ := hok
        refine bl_keys hx hb hK hP c2 dX0_least_13 ?_
        refine lv_if_eq (tgt := 19) hx hb dX0_least_14 (by decide) (fun c3 => ?_) (fun c3 => ?_)
        · have hF := (if_pos c3).symm.trans hF
          have hok := Eq.mp (if_pos c3) hok
          refine lv_iinc hx hb dX0_least_19 hl (k := 1) rfl rfl (by decide) rfl (fun ls hl => ?_)
          have hl : lv_has ls 2 [(1, _), (0, _)] := hl
          refine lv_goto (tgt := 2) hx hb dX0_least_22 (by decide) ?_
          exact ih _ _ _ _ hF hok hP hS (lv_sub hl [1, 0] rfl)
        · have hF := (if_neg c3).symm.trans hF
          have hok := Eq.mp (if_neg c3) hok
          refine lv_iload_n hx hb dX0_least_17 rfl (lv_at hl 1 rfl) ?_
          exact g_iret hx hb hr hlocks hP hS dX0_least_18 hF rfl
  refine lv_iconst (v := 0) hx hb dX0_least_0 (by decide) ?_
  refine lv_istore_n hx hb dX0_least_1 rfl hl (by decide) rfl (fun ls hl => ?_)
  have hl : lv_has ls 2 [(1, _), (0, _)] := hl
  exact (loop 17) _ _ _ _ hF hok hP hS (lv_sub hl [1, 0] rfl)
def f_X0_ask (u : BS) (p0 : Int32) : BS :=
  let u1 : BS := bs_asked u (p0 &&& 15)
  u1
set_option maxHeartbeats 4000000 in
set_option maxRecDepth 100000 in
theorem c_X0_ask (l : Launch) (dC : Nat → ClassId) (dI : Nat → Nat → Nat) (cI cZ : ClassId) (x : Nat → Nat) (hi : g_inj 13 x) (u : BS) (p0 : Int32) : g_Mv l yX0_ask (.code yX0_ask cX0_ask 2 none) { frames := 0, cells := 0, slots := 0, locals := 0 } (dC, dI) vwCl (tysW cI cZ) (wB x cI cZ) (g_bA 13 x) u [.ref (x 3), .int p0] (f_X0_ask u p0) := by
  refine Met.ofW (cc := cX0_ask) (maxL := 2) (ret := none) (by decide) rfl ?_
  intro p e s m args below meth c s₁ B hml hv
  obtain ⟨rfl, hP, hK⟩ := hv
  have hx := B.exec
  have hb := B.bytes
  have hr := B.returns
  have hts := atoms_spec (ws := .code yX0_ask cX0_ask 2 none :: gtbl) B.pre
  have hg : ∀ w ∈ gtbl, w.before _ s = true := fun w h => hts w (List.mem_cons_of_mem _ h)
  have hown : s.vm.findClass RX0 = some m.cls := findClass_of_methodNamed B.named
  have hlocks := B.notSynchronized
  have hS : va_S (g_bA 13 x) s.heap s.heap [] := va_S.rf
  have hl := lv_entry ([.ref (x 3), .int p0]) (n := 2) (Nat.le_of_ble_eq_true rfl)
  rw [lg_entry_eq]
  generalize (lg_sl ([.ref (x 3), .int p0]) ++ List.replicate (2 - (lg_sl ([.ref (x 3), .int p0])).length) Slot.unset).toArray = ls at hl ⊢
  have hl : lv_has ls 2 [(0, .ref (x 3)), (1, .int p0)] := hl
  obtain ⟨F, hF⟩ : ∃ F, f_X0_ask u p0 = F := ⟨_, rfl⟩
  rw [hF]
  refine lv_aload_n hx hb dX0_ask_0 rfl (lv_at hl 0 rfl) ?_
  refine lv_iload_n hx hb dX0_ask_1 rfl (lv_at hl 1 rfl) ?_
  refine lv_bipush (v := 15) hx hb dX0_ask_2 (by decide) ?_
  refine lv_iand hx hb dX0_ask_4 ?_
  refine pu_X0_asked hi hx hb hg hown kf_X0_13 hK hP hS dX0_ask_5 (fun H locs hP hS => ?_)
  exact g_vret hx hb hr hlocks hP hS dX0_ask_8 hF
def f_X0_asked (u : BS) : Int32 :=
  (bq_asked u)
set_option maxHeartbeats 4000000 in
set_option maxRecDepth 100000 in
theorem c_X0_asked (l : Launch) (dC : Nat → ClassId) (dI : Nat → Nat → Nat) (cI cZ : ClassId) (x : Nat → Nat) (hi : g_inj 13 x) (u : BS) : g_Mi l yX0_asked (.code yX0_asked cX0_asked 1 (some .int)) { frames := 0, cells := 0, slots := 0, locals := 0 } (dC, dI) vwCl (tysW cI cZ) (wB x cI cZ) (g_bA 13 x) u [.ref (x 3)] (f_X0_asked u) u := by
  refine Met.ofW (cc := cX0_asked) (maxL := 1) (ret := (some .int)) (by decide) rfl ?_
  intro p e s m args below meth c s₁ B hml hv
  obtain ⟨rfl, hP, hK⟩ := hv
  have hx := B.exec
  have hb := B.bytes
  have hr := B.returns
  have hts := atoms_spec (ws := .code yX0_asked cX0_asked 1 (some .int) :: gtbl) B.pre
  have hg : ∀ w ∈ gtbl, w.before _ s = true := fun w h => hts w (List.mem_cons_of_mem _ h)
  have hown : s.vm.findClass RX0 = some m.cls := findClass_of_methodNamed B.named
  have hlocks := B.notSynchronized
  have hS : va_S (g_bA 13 x) s.heap s.heap [] := va_S.rf
  have hl := lv_entry ([.ref (x 3)]) (n := 1) (Nat.le_of_ble_eq_true rfl)
  rw [lg_entry_eq]
  generalize (lg_sl ([.ref (x 3)]) ++ List.replicate (1 - (lg_sl ([.ref (x 3)])).length) Slot.unset).toArray = ls at hl ⊢
  have hl : lv_has ls 1 [(0, .ref (x 3))] := hl
  obtain ⟨F, hF⟩ : ∃ F, f_X0_asked u = F := ⟨_, rfl⟩
  rw [hF]
  refine lv_aload_n hx hb dX0_asked_0 rfl (lv_at hl 0 rfl) ?_
  refine ge_X0_asked hx hb hg hown kf_X0_13 hK hP dX0_asked_1 ?_
  exact g_iret hx hb hr hlocks hP hS dX0_asked_4 hF rfl
def f_X0_askedIsDown (u : BS) : Int32 :=
  (vp_nar .boolean (bq_keys u (((bq_asked u) &&& 15)).toNatClampNeg))
set_option maxHeartbeats 4000000 in
set_option maxRecDepth 100000 in
theorem c_X0_askedIsDown (l : Launch) (dC : Nat → ClassId) (dI : Nat → Nat → Nat) (cI cZ : ClassId) (x : Nat → Nat) (hi : g_inj 13 x) (u : BS) : g_Mi l yX0_askedIsDown (.code yX0_askedIsDown cX0_askedIsDown 1 (some .boolean)) { frames := 0, cells := 0, slots := 0, locals := 0 } (dC, dI) vwCl (tysW cI cZ) (wB x cI cZ) (g_bA 13 x) u [.ref (x 3)] (f_X0_askedIsDown u) u := by
  refine Met.ofW (cc := cX0_askedIsDown) (maxL := 1) (ret := (some .boolean)) (by decide) rfl ?_
  intro p e s m args below meth c s₁ B hml hv
  obtain ⟨rfl, hP, hK⟩ := hv
  have hx := B.exec
  have hb := B.bytes
  have hr := B.returns
  have hts := atoms_spec (ws := .code yX0_askedIsDown cX0_askedIsDown 1 (some .boolean) :: gtbl) B.pre
  have hg : ∀ w ∈ gtbl, w.before _ s = true := fun w h => hts w (List.mem_cons_of_mem _ h)
  have hown : s.vm.findClass RX0 = some m.cls := findClass_of_methodNamed B.named
  have hlocks := B.notSynchronized
  have hS : va_S (g_bA 13 x) s.heap s.heap [] := va_S.rf
  have hl := lv_entry ([.ref (x 3)]) (n := 1) (Nat.le_of_ble_eq_true rfl)
  rw [lg_entry_eq]
  generalize (lg_sl ([.ref (x 3)]) ++ List.replicate (1 - (lg_sl ([.ref (x 3)])).length) Slot.unset).toArray = ls at hl ⊢
  have hl : lv_has ls 1 [(0, .ref (x 3))] := hl
  obtain ⟨F, hF⟩ : ∃ F, f_X0_askedIsDown u = F := ⟨_, rfl⟩
  rw [hF]
  refine lv_aload_n hx hb dX0_askedIsDown_0 rfl (lv_at hl 0 rfl) ?_
  refine ge_X0_down hx hb hg hown kf_X0_9 hK hP dX0_askedIsDown_1 ?_
  refine lv_aload_n hx hb dX0_askedIsDown_4 rfl (lv_at hl 0 rfl) ?_
  refine ge_X0_asked hx hb hg hown kf_X0_13 hK hP dX0_askedIsDown_5 ?_
  refine lv_bipush (v := 15) hx hb dX0_askedIsDown_8 (by decide) ?_
  refine lv_iand hx hb dX0_askedIsDown_10 ?_
  refine bl_keys hx hb hK hP (pk_andIn _ 4 rfl (by decide)) dX0_askedIsDown_11 ?_
  exact g_zretN hx hb hr hlocks hP hS dX0_askedIsDown_12 hF rfl
def f_X5_delay (u : BS) : Int32 :=
  (bq_delay u)
set_option maxHeartbeats 4000000 in
set_option maxRecDepth 100000 in
theorem c_X5_delay (l : Launch) (dC : Nat → ClassId) (dI : Nat → Nat → Nat) (cI cZ : ClassId) (x : Nat → Nat) (hi : g_inj 13 x) (u : BS) : g_Mi l yX5_delay (.code yX5_delay cX5_delay 1 (some .int)) { frames := 0, cells := 0, slots := 0, locals := 0 } (dC, dI) vwCl (tysW cI cZ) (wB x cI cZ) (g_bA 13 x) u [.ref (x 5)] (f_X5_delay u) u := by
  refine Met.ofW (cc := cX5_delay) (maxL := 1) (ret := (some .int)) (by decide) rfl ?_
  intro p e s m args below meth c s₁ B hml hv
  obtain ⟨rfl, hP, hK⟩ := hv
  have hx := B.exec
  have hb := B.bytes
  have hr := B.returns
  have hts := atoms_spec (ws := .code yX5_delay cX5_delay 1 (some .int) :: gtbl) B.pre
  have hg : ∀ w ∈ gtbl, w.before _ s = true := fun w h => hts w (List.mem_cons_of_mem _ h)
  have hown : s.vm.findClass RX5 = some m.cls := findClass_of_methodNamed B.named
  have hlocks := B.notSynchronized
  have hS : va_S (g_bA 13 x) s.heap s.heap [] := va_S.rf
  have hl := lv_entry ([.ref (x 5)]) (n := 1) (Nat.le_of_ble_eq_true rfl)
  rw [lg_entry_eq]
  generalize (lg_sl ([.ref (x 5)]) ++ List.replicate (1 - (lg_sl ([.ref (x 5)])).length) Slot.unset).toArray = ls at hl ⊢
  have hl : lv_has ls 1 [(0, .ref (x 5))] := hl
  obtain ⟨F, hF⟩ : ∃ F, f_X5_delay u = F := ⟨_, rfl⟩
  rw [hF]
  refine lv_aload_n hx hb dX5_delay_0 rfl (lv_at hl 0 rfl) ?_
  refine ge_X5_delay hx hb hg hown kf_X5_7 hK hP dX5_delay_1 ?_
  exact g_iret hx hb hr hlocks hP hS dX5_delay_4 hF rfl
def f_X5_tone (u : BS) : Int32 :=
  (bq_tone u)
set_option maxHeartbeats 4000000 in
set_option maxRecDepth 100000 in
theorem c_X5_tone (l : Launch) (dC : Nat → ClassId) (dI : Nat → Nat → Nat) (cI cZ : ClassId) (x : Nat → Nat) (hi : g_inj 13 x) (u : BS) : g_Mi l yX5_tone (.code yX5_tone cX5_tone 1 (some .int)) { frames := 0, cells := 0, slots := 0, locals := 0 } (dC, dI) vwCl (tysW cI cZ) (wB x cI cZ) (g_bA 13 x) u [.ref (x 5)] (f_X5_tone u) u := by
  refine Met.ofW (cc := cX5_tone) (maxL := 1) (ret := (some .int)) (by decide) rfl ?_
  intro p e s m args below meth c s₁ B hml hv
  obtain ⟨rfl, hP, hK⟩ := hv
  have hx := B.exec
  have hb := B.bytes
  have hr := B.returns
  have hts := atoms_spec (ws := .code yX5_tone cX5_tone 1 (some .int) :: gtbl) B.pre
  have hg : ∀ w ∈ gtbl, w.before _ s = true := fun w h => hts w (List.mem_cons_of_mem _ h)
  have hown : s.vm.findClass RX5 = some m.cls := findClass_of_methodNamed B.named
  have hlocks := B.notSynchronized
  have hS : va_S (g_bA 13 x) s.heap s.heap [] := va_S.rf
  have hl := lv_entry ([.ref (x 5)]) (n := 1) (Nat.le_of_ble_eq_true rfl)
  rw [lg_entry_eq]
  generalize (lg_sl ([.ref (x 5)]) ++ List.replicate (1 - (lg_sl ([.ref (x 5)])).length) Slot.unset).toArray = ls at hl ⊢
  have hl : lv_has ls 1 [(0, .ref (x 5))] := hl
  obtain ⟨F, hF⟩ : ∃ F, f_X5_tone u = F := ⟨_, rfl⟩
  rw [hF]
  refine lv_aload_n hx hb dX5_tone_0 rfl (lv_at hl 0 rfl) ?_
  refine ge_X5_tone hx hb hg hown kf_X5_13 hK hP dX5_tone_1 ?_
  exact g_iret hx hb hr hlocks hP hS dX5_tone_4 hF rfl
def f_X5_setDelay (u : BS) (p0 : Int32) : BS :=
  let u1 : BS := bs_delay u (p0 &&& 255)
  u1
set_option maxHeartbeats 4000000 in
set_option maxRecDepth 100000 in
theorem c_X5_setDelay (l : Launch) (dC : Nat → ClassId) (dI : Nat → Nat → Nat) (cI cZ : ClassId) (x : Nat → Nat) (hi : g_inj 13 x) (u : BS) (p0 : Int32) : g_Mv l yX5_setDelay (.code yX5_setDelay cX5_setDelay 2 none) { frames := 0, cells := 0, slots := 0, locals := 0 } (dC, dI) vwCl (tysW cI cZ) (wB x cI cZ) (g_bA 13 x) u [.ref (x 5), .int p0] (f_X5_setDelay u p0) := by
  refine Met.ofW (cc := cX5_setDelay) (maxL := 2) (ret := none) (by decide) rfl ?_
  intro p e s m args below meth c s₁ B hml hv
  obtain ⟨rfl, hP, hK⟩ := hv
  have hx := B.exec
  have hb := B.bytes
  have hr := B.returns
  have hts := atoms_spec (ws := .code yX5_setDelay cX5_setDelay 2 none :: gtbl) B.pre
  have hg : ∀ w ∈ gtbl, w.before _ s = true := fun w h => hts w (List.mem_cons_of_mem _ h)
  have hown : s.vm.findClass RX5 = some m.cls := findClass_of_methodNamed B.named
  have hlocks := B.notSynchronized
  have hS : va_S (g_bA 13 x) s.heap s.heap [] := va_S.rf
  have hl := lv_entry ([.ref (x 5), .int p0]) (n := 2) (Nat.le_of_ble_eq_true rfl)
  rw [lg_entry_eq]
  generalize (lg_sl ([.ref (x 5), .int p0]) ++ List.replicate (2 - (lg_sl ([.ref (x 5), .int p0])).length) Slot.unset).toArray = ls at hl ⊢
  have hl : lv_has ls 2 [(0, .ref (x 5)), (1, .int p0)] := hl
  obtain ⟨F, hF⟩ : ∃ F, f_X5_setDelay u p0 = F := ⟨_, rfl⟩
  rw [hF]
  refine lv_aload_n hx hb dX5_setDelay_0 rfl (lv_at hl 0 rfl) ?_
  refine lv_iload_n hx hb dX5_setDelay_1 rfl (lv_at hl 1 rfl) ?_
  refine lv_sipush (v := 255) hx hb dX5_setDelay_2 (by decide) ?_
  refine lv_iand hx hb dX5_setDelay_5 ?_
  refine pu_X5_delay hi hx hb hg hown kf_X5_7 hK hP hS dX5_setDelay_6 (fun H locs hP hS => ?_)
  exact g_vret hx hb hr hlocks hP hS dX5_setDelay_9 hF
def f_X5_setTone (u : BS) (p0 : Int32) : BS :=
  let u1 : BS := bs_tone u (p0 &&& 255)
  u1
set_option maxHeartbeats 4000000 in
set_option maxRecDepth 100000 in
theorem c_X5_setTone (l : Launch) (dC : Nat → ClassId) (dI : Nat → Nat → Nat) (cI cZ : ClassId) (x : Nat → Nat) (hi : g_inj 13 x) (u : BS) (p0 : Int32) : g_Mv l yX5_setTone (.code yX5_setTone cX5_setTone 2 none) { frames := 0, cells := 0, slots := 0, locals := 0 } (dC, dI) vwCl (tysW cI cZ) (wB x cI cZ) (g_bA 13 x) u [.ref (x 5), .int p0] (f_X5_setTone u p0) := by
  refine Met.ofW (cc := cX5_setTone) (maxL := 2) (ret := none) (by decide) rfl ?_
  intro p e s m args below meth c s₁ B hml hv
  obtain ⟨rfl, hP, hK⟩ := hv
  have hx := B.exec
  have hb := B.bytes
  have hr := B.returns
  have hts := atoms_spec (ws := .code yX5_setTone cX5_setTone 2 none :: gtbl) B.pre
  have hg : ∀ w ∈ gtbl, w.before _ s = true := fun w h => hts w (List.mem_cons_of_mem _ h)
  have hown : s.vm.findClass RX5 = some m.cls := findClass_of_methodNamed B.named
  have hlocks := B.notSynchronized
  have hS : va_S (g_bA 13 x) s.heap s.heap [] := va_S.rf
  have hl := lv_entry ([.ref (x 5), .int p0]) (n := 2) (Nat.le_of_ble_eq_true rfl)
  rw [lg_entry_eq]
  generalize (lg_sl ([.ref (x 5), .int p0]) ++ List.replicate (2 - (lg_sl ([.ref (x 5), .int p0])).length) Slot.unset).toArray = ls at hl ⊢
  have hl : lv_has ls 2 [(0, .ref (x 5)), (1, .int p0)] := hl
  obtain ⟨F, hF⟩ : ∃ F, f_X5_setTone u p0 = F := ⟨_, rfl⟩
  rw [hF]
  refine lv_aload_n hx hb dX5_setTone_0 rfl (lv_at hl 0 rfl) ?_
  refine lv_iload_n hx hb dX5_setTone_1 rfl (lv_at hl 1 rfl) ?_
  refine lv_sipush (v := 255) hx hb dX5_setTone_2 (by decide) ?_
  refine lv_iand hx hb dX5_setTone_5 ?_
  refine pu_X5_tone hi hx hb hg hown kf_X5_13 hK hP hS dX5_setTone_6 (fun H locs hP hS => ?_)
  exact g_vret hx hb hr hlocks hP hS dX5_setTone_9 hF
def f_X5_fall (u : BS) : BS :=
  if (bq_delay u) ≤ 0 then
    if (bq_tone u) ≤ 0 then
      u
    else
      let u1 : BS := bs_tone u ((bq_tone u) - 1)
      u1
  else
    let u2 : BS := bs_delay u ((bq_delay u) - 1)
    if (bq_tone u2) ≤ 0 then
      u2
    else
      let u3 : BS := bs_tone u2 ((bq_tone u2) - 1)
      u3
set_option maxHeartbeats 4000000 in
set_option maxRecDepth 100000 in
theorem c_X5_fall (l : Launch) (dC : Nat → ClassId) (dI : Nat → Nat → Nat) (cI cZ : ClassId) (x : Nat → Nat) (hi : g_inj 13 x) (u : BS) : g_Mv l yX5_fall (.code yX5_fall cX5_fall 1 none) { frames := 0, cells := 0, slots := 0, locals := 0 } (dC, dI) vwCl (tysW cI cZ) (wB x cI cZ) (g_bA 13 x) u [.ref (x 5)] (f_X5_fall u) := by
  refine Met.ofW (cc := cX5_fall) (maxL := 1) (ret := none) (by decide) rfl ?_
  intro p e s m args below meth c s₁ B hml hv
  obtain ⟨rfl, hP, hK⟩ := hv
  have hx := B.exec
  have hb := B.bytes
  have hr := B.returns
  have hts := atoms_spec (ws := .code yX5_fall cX5_fall 1 none :: gtbl) B.pre
  have hg : ∀ w ∈ gtbl, w.before _ s = true := fun w h => hts w (List.mem_cons_of_mem _ h)
  have hown : s.vm.findClass RX5 = some m.cls := findClass_of_methodNamed B.named
  have hlocks := B.notSynchronized
  have hS : va_S (g_bA 13 x) s.heap s.heap [] := va_S.rf
  have hl := lv_entry ([.ref (x 5)]) (n := 1) (Nat.le_of_ble_eq_true rfl)
  rw [lg_entry_eq]
  generalize (lg_sl ([.ref (x 5)]) ++ List.replicate (1 - (lg_sl ([.ref (x 5)])).length) Slot.unset).toArray = ls at hl ⊢
  have hl : lv_has ls 1 [(0, .ref (x 5))] := hl
  obtain ⟨F, hF⟩ : ∃ F, f_X5_fall u = F := ⟨_, rfl⟩
  rw [hF]
  refine lv_aload_n hx hb dX5_fall_0 rfl (lv_at hl 0 rfl) ?_
  refine ge_X5_delay hx hb hg hown kf_X5_7 hK hP dX5_fall_1 ?_
  refine lv_if_le (tgt := 17) hx hb dX5_fall_4 (by decide) (fun c1 => ?_) (fun c1 => ?_)
  · have hF := (if_pos c1).symm.trans hF
    refine lv_aload_n hx hb dX5_fall_17 rfl (lv_at hl 0 rfl) ?_
    refine ge_X5_tone hx hb hg hown kf_X5_13 hK hP dX5_fall_18 ?_
    refine lv_if_le (tgt := 34) hx hb dX5_fall_21 (by decide) (fun c2 => ?_) (fun c2 => ?_)
    · have hF := (if_pos c2).symm.trans hF
      exact g_vret hx hb hr hlocks hP hS dX5_fall_34 hF
    · have hF := (if_neg c2).symm.trans hF
      refine lv_aload_n hx hb dX5_fall_24 rfl (lv_at hl 0 rfl) ?_
      refine lv_dup hx hb dX5_fall_25 rfl ?_
      refine ge_X5_tone hx hb hg hown kf_X5_13 hK hP dX5_fall_26 ?_
      refine lv_iconst (v := 1) hx hb dX5_fall_29 (by decide) ?_
      refine lv_isub hx hb dX5_fall_30 ?_
      refine pu_X5_tone hi hx hb hg hown kf_X5_13 hK hP hS dX5_fall_31 (fun H locs hP hS => ?_)
      exact g_vret hx hb hr hlocks hP hS dX5_fall_34 hF
  · have hF := (if_neg c1).symm.trans hF
    refine lv_aload_n hx hb dX5_fall_7 rfl (lv_at hl 0 rfl) ?_
    refine lv_dup hx hb dX5_fall_8 rfl ?_
    refine ge_X5_delay hx hb hg hown kf_X5_7 hK hP dX5_fall_9 ?_
    refine lv_iconst (v := 1) hx hb dX5_fall_12 (by decide) ?_
    refine lv_isub hx hb dX5_fall_13 ?_
    refine pu_X5_delay hi hx hb hg hown kf_X5_7 hK hP hS dX5_fall_14 (fun H locs hP hS => ?_)
    refine lv_aload_n hx hb dX5_fall_17 rfl (lv_at hl 0 rfl) ?_
    refine ge_X5_tone hx hb hg hown kf_X5_13 hK hP dX5_fall_18 ?_
    refine lv_if_le (tgt := 34) hx hb dX5_fall_21 (by decide) (fun c3 => ?_) (fun c3 => ?_)
    · have hF := (if_pos c3).symm.trans hF
      exact g_vret hx hb hr hlocks hP hS dX5_fall_34 hF
    · have hF := (if_neg c3).symm.trans hF
      refine lv_aload_n hx hb dX5_fall_24 rfl (lv_at hl 0 rfl) ?_
      refine lv_dup hx hb dX5_fall_25 rfl ?_
      refine ge_X5_tone hx hb hg hown kf_X5_13 hK hP dX5_fall_26 ?_
      refine lv_iconst (v := 1) hx hb dX5_fall_29 (by decide) ?_
      refine lv_isub hx hb dX5_fall_30 ?_
      refine pu_X5_tone hi hx hb hg hown kf_X5_13 hK hP hS dX5_fall_31 (fun H locs hP hS => ?_)
      exact g_vret hx hb hr hlocks hP hS dX5_fall_34 hF
def f_X3_switchTo (u : BS) (p0 : Int32) : BS :=
  let u1 : BS := bs_on u p0
  u1
def ok_X3_switchTo (u : BS) (p0 : Int32) : Prop :=
  (narrow .boolean (.int p0) = .int p0 ∧ fits .boolean (.int p0) = true) ∧
  let u1 : BS := bs_on u p0
  True
set_option maxHeartbeats 4000000 in
set_option maxRecDepth 100000 in
theorem c_X3_switchTo (l : Launch) (dC : Nat → ClassId) (dI : Nat → Nat → Nat) (cI cZ : ClassId) (x : Nat → Nat) (hi : g_inj 13 x) (u : BS) (p0 : Int32) (hok : ok_X3_switchTo u p0) : g_Mv l yX3_switchTo (.code yX3_switchTo cX3_switchTo 2 none) { frames := 0, cells := 0, slots := 0, locals := 0 } (dC, dI) vwCl (tysW cI cZ) (wB x cI cZ) (g_bA 13 x) u [.ref (x 6), .int p0] (f_X3_switchTo u p0) := by
  refine Met.ofW (cc := cX3_switchTo) (maxL := 2) (ret := none) (by decide) rfl ?_
  intro p e s m args below meth c s₁ B hml hv
  obtain ⟨rfl, hP, hK⟩ := hv
  have hx := B.exec
  have hb := B.bytes
  have hr := B.returns
  have hts := atoms_spec (ws := .code yX3_switchTo cX3_switchTo 2 none :: gtbl) B.pre
  have hg : ∀ w ∈ gtbl, w.before _ s = true := fun w h => hts w (List.mem_cons_of_mem _ h)
  have hown : s.vm.findClass RX3 = some m.cls := findClass_of_methodNamed B.named
  have hlocks := B.notSynchronized
  have hS : va_S (g_bA 13 x) s.heap s.heap [] := va_S.rf
  have hl := lv_entry ([.ref (x 6), .int p0]) (n := 2) (Nat.le_of_ble_eq_true rfl)
  rw [lg_entry_eq]
  generalize (lg_sl ([.ref (x 6), .int p0]) ++ List.replicate (2 - (lg_sl ([.ref (x 6), .int p0])).length) Slot.unset).toArray = ls at hl ⊢
  have hl : lv_has ls 2 [(0, .ref (x 6)), (1, .int p0)] := hl
  obtain ⟨F, hF⟩ : ∃ F, f_X3_switchTo u p0 = F := ⟨_, rfl⟩
  rw [hF]
  refine lv_aload_n hx hb dX3_switchTo_0 rfl (lv_at hl 0 rfl) ?_
  refine lv_iload_n hx hb dX3_switchTo_1 rfl (lv_at hl 1 rfl) ?_
  obtain ⟨c1, hok⟩ := hok
  refine pu_X3_on hi hx hb hg hown kf_X3_17 hK hP hS c1.1 c1.2 dX3_switchTo_2 (fun H locs hP hS => ?_)
  exact g_vret hx hb hr hlocks hP hS dX3_switchTo_5 hF
def f_X3_flag (u : BS) : Int32 :=
  if (bq_on u) = 0 then
    0
  else
    if (bq_line u) < 60 then
      if (bq_line u) < 188 then
        0
      else
        if 191 < (bq_line u) then
          0
        else
          1
    else
      if (bq_line u) ≤ 63 then
        1
      else
        if (bq_line u) < 188 then
          0
        else
          if 191 < (bq_line u) then
            0
          else
            1
set_option maxHeartbeats 4000000 in
set_option maxRecDepth 100000 in
theorem c_X3_flag (l : Launch) (dC : Nat → ClassId) (dI : Nat → Nat → Nat) (cI cZ : ClassId) (x : Nat → Nat) (hi : g_inj 13 x) (u : BS) : g_Mi l yX3_flag (.code yX3_flag cX3_flag 1 (some .boolean)) { frames := 0, cells := 0, slots := 0, locals := 0 } (dC, dI) vwCl (tysW cI cZ) (wB x cI cZ) (g_bA 13 x) u [.ref (x 6)] (f_X3_flag u) u := by
  refine Met.ofW (cc := cX3_flag) (maxL := 1) (ret := (some .boolean)) (by decide) rfl ?_
  intro p e s m args below meth c s₁ B hml hv
  obtain ⟨rfl, hP, hK⟩ := hv
  have hx := B.exec
  have hb := B.bytes
  have hr := B.returns
  have hts := atoms_spec (ws := .code yX3_flag cX3_flag 1 (some .boolean) :: gtbl) B.pre
  have hg : ∀ w ∈ gtbl, w.before _ s = true := fun w h => hts w (List.mem_cons_of_mem _ h)
  have hown : s.vm.findClass RX3 = some m.cls := findClass_of_methodNamed B.named
  have hlocks := B.notSynchronized
  have hS : va_S (g_bA 13 x) s.heap s.heap [] := va_S.rf
  have hl := lv_entry ([.ref (x 6)]) (n := 1) (Nat.le_of_ble_eq_true rfl)
  rw [lg_entry_eq]
  generalize (lg_sl ([.ref (x 6)]) ++ List.replicate (1 - (lg_sl ([.ref (x 6)])).length) Slot.unset).toArray = ls at hl ⊢
  have hl : lv_has ls 1 [(0, .ref (x 6))] := hl
  obtain ⟨F, hF⟩ : ∃ F, f_X3_flag u = F := ⟨_, rfl⟩
  rw [hF]
  refine lv_aload_n hx hb dX3_flag_0 rfl (lv_at hl 0 rfl) ?_
  refine ge_X3_on hx hb hg hown kf_X3_17 hK hP dX3_flag_1 ?_
  refine lv_if_eq (tgt := 49) hx hb dX3_flag_4 (by decide) (fun c1 => ?_) (fun c1 => ?_)
  · have hF := (if_pos c1).symm.trans hF
    refine lv_iconst (v := 0) hx hb dX3_flag_49 (by decide) ?_
    exact g_zret hx hb hr hlocks hP hS dX3_flag_50 rfl hF rfl
  · have hF := (if_neg c1).symm.trans hF
    refine lv_aload_n hx hb dX3_flag_7 rfl (lv_at hl 0 rfl) ?_
    refine ge_X3_line hx hb hg hown kf_X3_21 hK hP dX3_flag_8 ?_
    refine lv_bipush (v := 60) hx hb dX3_flag_11 (by decide) ?_
    refine lv_icmp_lt (tgt := 25) hx hb dX3_flag_13 (by decide) (fun c2 => ?_) (fun c2 => ?_)
    · have hF := (if_pos c2).symm.trans hF
      refine lv_aload_n hx hb dX3_flag_25 rfl (lv_at hl 0 rfl) ?_
      refine ge_X3_line hx hb hg hown kf_X3_21 hK hP dX3_flag_26 ?_
      refine lv_sipush (v := 188) hx hb dX3_flag_29 (by decide) ?_
      refine lv_icmp_lt (tgt := 49) hx hb dX3_flag_32 (by decide) (fun c3 => ?_) (fun c3 => ?_)
      · have hF := (if_pos c3).symm.trans hF
        refine lv_iconst (v := 0) hx hb dX3_flag_49 (by decide) ?_
        exact g_zret hx hb hr hlocks hP hS dX3_flag_50 rfl hF rfl
      · have hF := (if_neg c3).symm.trans hF
        refine lv_aload_n hx hb dX3_flag_35 rfl (lv_at hl 0 rfl) ?_
        refine ge_X3_line hx hb hg hown kf_X3_21 hK hP dX3_flag_36 ?_
        refine lv_sipush (v := 191) hx hb dX3_flag_39 (by decide) ?_
        refine lv_icmp_gt (tgt := 49) hx hb dX3_flag_42 (by decide) (fun c4 => ?_) (fun c4 => ?_)
        · have hF := (if_pos c4).symm.trans hF
          refine lv_iconst (v := 0) hx hb dX3_flag_49 (by decide) ?_
          exact g_zret hx hb hr hlocks hP hS dX3_flag_50 rfl hF rfl
        · have hF := (if_neg c4).symm.trans hF
          refine lv_iconst (v := 1) hx hb dX3_flag_45 (by decide) ?_
          refine lv_goto (tgt := 50) hx hb dX3_flag_46 (by decide) ?_
          exact g_zret hx hb hr hlocks hP hS dX3_flag_50 rfl hF rfl
    · have hF := (if_neg c2).symm.trans hF
      refine lv_aload_n hx hb dX3_flag_16 rfl (lv_at hl 0 rfl) ?_
      refine ge_X3_line hx hb hg hown kf_X3_21 hK hP dX3_flag_17 ?_
      refine lv_bipush (v := 63) hx hb dX3_flag_20 (by decide) ?_
      refine lv_icmp_le (tgt := 45) hx hb dX3_flag_22 (by decide) (fun c5 => ?_) (fun c5 => ?_)
      · have hF := (if_pos c5).symm.trans hF
        refine lv_iconst (v := 1) hx hb dX3_flag_45 (by decide) ?_
        refine lv_goto (tgt := 50) hx hb dX3_flag_46 (by decide) ?_
        exact g_zret hx hb hr hlocks hP hS dX3_flag_50 rfl hF rfl
      · have hF := (if_neg c5).symm.trans hF
        refine lv_aload_n hx hb dX3_flag_25 rfl (lv_at hl 0 rfl) ?_
        refine ge_X3_line hx hb hg hown kf_X3_21 hK hP dX3_flag_26 ?_
        refine lv_sipush (v := 188) hx hb dX3_flag_29 (by decide) ?_
        refine lv_icmp_lt (tgt := 49) hx hb dX3_flag_32 (by decide) (fun c6 => ?_) (fun c6 => ?_)
        · have hF := (if_pos c6).symm.trans hF
          refine lv_iconst (v := 0) hx hb dX3_flag_49 (by decide) ?_
          exact g_zret hx hb hr hlocks hP hS dX3_flag_50 rfl hF rfl
        · have hF := (if_neg c6).symm.trans hF
          refine lv_aload_n hx hb dX3_flag_35 rfl (lv_at hl 0 rfl) ?_
          refine ge_X3_line hx hb hg hown kf_X3_21 hK hP dX3_flag_36 ?_
          refine lv_sipush (v := 191) hx hb dX3_flag_39 (by decide) ?_
          refine lv_icmp_gt (tgt := 49) hx hb dX3_flag_42 (by decide) (fun c7 => ?_) (fun c7 => ?_)
          · have hF := (if_pos c7).symm.trans hF
            refine lv_iconst (v := 0) hx hb dX3_flag_49 (by decide) ?_
            exact g_zret hx hb hr hlocks hP hS dX3_flag_50 rfl hF rfl
          · have hF := (if_neg c7).symm.trans hF
            refine lv_iconst (v := 1) hx hb dX3_flag_45 (by decide) ?_
            refine lv_goto (tgt := 50) hx hb dX3_flag_46 (by decide) ?_
            exact g_zret hx hb hr hlocks hP hS dX3_flag_50 rfl hF rfl
def f_X3_part (u : BS) (p0 : Int32) : Int32 :=
  if p0 = 0 then
    if (bq_on u) = 0 then
      0
    else
      1
  else
    if p0 = 1 then
      (bq_line u)
    else
      if p0 = 2 then
        (bq_place u)
      else
        if p0 = 3 then
          (bq_frames u)
        else
          if (f_X3_flag u) = 0 then
            0
          else
            1
set_option maxHeartbeats 4000000 in
set_option maxRecDepth 100000 in
theorem c_X3_part (l : Launch) (dC : Nat → ClassId) (dI : Nat → Nat → Nat) (cI cZ : ClassId) (x : Nat → Nat) (hi : g_inj 13 x) (u : BS) (p0 : Int32) : g_Mi l yX3_part (.code yX3_part cX3_part 2 (some .int)) { frames := 1, cells := 0, slots := 0, locals := 20 } (dC, dI) vwCl (tysW cI cZ) (wB x cI cZ) (g_bA 13 x) u [.ref (x 6), .int p0] (f_X3_part u p0) u := by
  refine Met.ofW (cc := cX3_part) (maxL := 2) (ret := (some .int)) (by decide) rfl ?_
  intro p e s m args below meth c s₁ B hml hv
  obtain ⟨rfl, hP, hK⟩ := hv
  have hx := B.exec
  have hb := B.bytes
  have hr := B.returns
  have hts := atoms_spec (ws := .code yX3_part cX3_part 2 (some .int) :: gtbl) B.pre
  have hg : ∀ w ∈ gtbl, w.before _ s = true := fun w h => hts w (List.mem_cons_of_mem _ h)
  have hown : s.vm.findClass RX3 = some m.cls := findClass_of_methodNamed B.named
  have hlocks := B.notSynchronized
  have hS : va_S (g_bA 13 x) s.heap s.heap [] := va_S.rf
  have hl := lv_entry ([.ref (x 6), .int p0]) (n := 2) (Nat.le_of_ble_eq_true rfl)
  rw [lg_entry_eq]
  generalize (lg_sl ([.ref (x 6), .int p0]) ++ List.replicate (2 - (lg_sl ([.ref (x 6), .int p0])).length) Slot.unset).toArray = ls at hl ⊢
  have hl : lv_has ls 2 [(0, .ref (x 6)), (1, .int p0)] := hl
  obtain ⟨F, hF⟩ : ∃ F, f_X3_part u p0 = F := ⟨_, rfl⟩
  rw [hF]
  refine lv_iload_n hx hb dX3_part_0 rfl (lv_at hl 1 rfl) ?_
  refine sw_case (v := 0) (fun c1 => ?_) (fun c1 => ?_)
  · have hF := (if_pos c1).symm.trans hF
    refine sw_in (off := 31) (tgt := 32) 0 hx hb dX3_part_1 c1 (by decide) (by decide) ?_
    refine lv_aload_n hx hb dX3_part_32 rfl (lv_at hl 0 rfl) ?_
    refine ge_X3_on hx hb hg hown kf_X3_17 hK hP dX3_part_33 ?_
    refine lv_if_eq (tgt := 43) hx hb dX3_part_36 (by decide) (fun c2 => ?_) (fun c2 => ?_)
    · have hF := (if_pos c2).symm.trans hF
      refine lv_iconst (v := 0) hx hb dX3_part_43 (by decide) ?_
      exact g_iret hx hb hr hlocks hP hS dX3_part_44 hF rfl
    · have hF := (if_neg c2).symm.trans hF
      refine lv_iconst (v := 1) hx hb dX3_part_39 (by decide) ?_
      refine lv_goto (tgt := 44) hx hb dX3_part_40 (by decide) ?_
      exact g_iret hx hb hr hlocks hP hS dX3_part_44 hF rfl
  · have hF := (if_neg c1).symm.trans hF
    refine sw_case (v := 1) (fun c3 => ?_) (fun c3 => ?_)
    · have hF := (if_pos c3).symm.trans hF
      refine sw_in (off := 44) (tgt := 45) 1 hx hb dX3_part_1 c3 (by decide) (by decide) ?_
      refine lv_aload_n hx hb dX3_part_45 rfl (lv_at hl 0 rfl) ?_
      refine ge_X3_line hx hb hg hown kf_X3_21 hK hP dX3_part_46 ?_
      exact g_iret hx hb hr hlocks hP hS dX3_part_49 hF rfl
    · have hF := (if_neg c3).symm.trans hF
      refine sw_case (v := 2) (fun c4 => ?_) (fun c4 => ?_)
      · have hF := (if_pos c4).symm.trans hF
        refine sw_in (off := 49) (tgt := 50) 2 hx hb dX3_part_1 c4 (by decide) (by decide) ?_
        refine lv_aload_n hx hb dX3_part_50 rfl (lv_at hl 0 rfl) ?_
        refine ge_X3_place hx hb hg hown kf_X3_25 hK hP dX3_part_51 ?_
        exact g_iret hx hb hr hlocks hP hS dX3_part_54 hF rfl
      · have hF := (if_neg c4).symm.trans hF
        refine sw_case (v := 3) (fun c5 => ?_) (fun c5 => ?_)
        · have hF := (if_pos c5).symm.trans hF
          refine sw_in (off := 54) (tgt := 55) 3 hx hb dX3_part_1 c5 (by decide) (by decide) ?_
          refine lv_aload_n hx hb dX3_part_55 rfl (lv_at hl 0 rfl) ?_
          refine ge_X3_frames hx hb hg hown kf_X3_28 hK hP dX3_part_56 ?_
          exact g_iret hx hb hr hlocks hP hS dX3_part_59 hF rfl
        · have hF := (if_neg c5).symm.trans hF
          refine sw_def (tgt := 60) [0, 1, 2, 3] hx hb dX3_part_1 (List.forall_mem_cons.mpr ⟨c1, List.forall_mem_cons.mpr ⟨c3, List.forall_mem_cons.mpr ⟨c4, List.forall_mem_cons.mpr ⟨c5, fun _ h => absurd h List.not_mem_nil⟩⟩⟩⟩) (by decide) (by decide) ?_
          refine lv_aload_n hx hb dX3_part_60 rfl (lv_at hl 0 rfl) ?_
          refine g_Vi hx hb hml hown hg (c_X3_flag l dC dI cI cZ x hi _) cs_X3_31 rfl rfl ⟨Nat.le_of_ble_eq_true rfl, Nat.le_of_ble_eq_true rfl⟩ hK hP hS (q0 := 6) rfl rfl rfl hl.1 rfl (Nat.le_of_ble_eq_true rfl) dX3_part_61 ⟨Nat.zero_le _, Nat.zero_le _⟩ (fun H locs hP hS => ?_)
          refine lv_if_eq (tgt := 71) hx hb dX3_part_64 (by decide) (fun c6 => ?_) (fun c6 => ?_)
          · have hF := (if_pos c6).symm.trans hF
            refine lv_iconst (v := 0) hx hb dX3_part_71 (by decide) ?_
            exact g_iret hx hb hr hlocks hP hS dX3_part_72 hF rfl
          · have hF := (if_neg c6).symm.trans hF
            refine lv_iconst (v := 1) hx hb dX3_part_67 (by decide) ?_
            refine lv_goto (tgt := 72) hx hb dX3_part_68 (by decide) ?_
            exact g_iret hx hb hr hlocks hP hS dX3_part_72 hF rfl
def f_X3_endLine (u : BS) : BS :=
  let u1 : BS := bs_fetched u 0
  let u2 : BS := bs_line u1 ((bq_line u1) + 1)
  if (bq_line u2) < 262 then
    u2
  else
    let u3 : BS := bs_line u2 0
    let u4 : BS := bs_frames u3 ((bq_frames u3) + 1)
    let u5 : BS := bs_intr u4 0
    let r6 : BS := f_X5_fall u5
    r6
set_option maxHeartbeats 4000000 in
set_option maxRecDepth 100000 in
theorem c_X3_endLine (l : Launch) (dC : Nat → ClassId) (dI : Nat → Nat → Nat) (cI cZ : ClassId) (x : Nat → Nat) (hi : g_inj 13 x) (u : BS) : g_Mv l yX3_endLine (.code yX3_endLine cX3_endLine 1 none) { frames := 1, cells := 0, slots := 0, locals := 20 } (dC, dI) vwCl (tysW cI cZ) (wB x cI cZ) (g_bA 13 x) u [.ref (x 6)] (f_X3_endLine u) := by
  refine Met.ofW (cc := cX3_endLine) (maxL := 1) (ret := none) (by decide) rfl ?_
  intro p e s m args below meth c s₁ B hml hv
  obtain ⟨rfl, hP, hK⟩ := hv
  have hx := B.exec
  have hb := B.bytes
  have hr := B.returns
  have hts := atoms_spec (ws := .code yX3_endLine cX3_endLine 1 none :: gtbl) B.pre
  have hg : ∀ w ∈ gtbl, w.before _ s = true := fun w h => hts w (List.mem_cons_of_mem _ h)
  have hown : s.vm.findClass RX3 = some m.cls := findClass_of_methodNamed B.named
  have hlocks := B.notSynchronized
  have hS : va_S (g_bA 13 x) s.heap s.heap [] := va_S.rf
  have hl := lv_entry ([.ref (x 6)]) (n := 1) (Nat.le_of_ble_eq_true rfl)
  rw [lg_entry_eq]
  generalize (lg_sl ([.ref (x 6)]) ++ List.replicate (1 - (lg_sl ([.ref (x 6)])).length) Slot.unset).toArray = ls at hl ⊢
  have hl : lv_has ls 1 [(0, .ref (x 6))] := hl
  obtain ⟨F, hF⟩ : ∃ F, f_X3_endLine u = F := ⟨_, rfl⟩
  rw [hF]
  refine lv_aload_n hx hb dX3_endLine_0 rfl (lv_at hl 0 rfl) ?_
  refine lv_iconst (v := 0) hx hb dX3_endLine_1 (by decide) ?_
  refine pu_X3_fetched hi hx hb hg hown kf_X3_38 hK hP hS rfl rfl dX3_endLine_2 (fun H locs hP hS => ?_)
  refine lv_aload_n hx hb dX3_endLine_5 rfl (lv_at hl 0 rfl) ?_
  refine lv_dup hx hb dX3_endLine_6 rfl ?_
  refine ge_X3_line hx hb hg hown kf_X3_21 hK hP dX3_endLine_7 ?_
  refine lv_iconst (v := 1) hx hb dX3_endLine_10 (by decide) ?_
  refine lv_iadd hx hb dX3_endLine_11 ?_
  refine pu_X3_line hi hx hb hg hown kf_X3_21 hK hP hS dX3_endLine_12 (fun H locs hP hS => ?_)
  refine lv_aload_n hx hb dX3_endLine_15 rfl (lv_at hl 0 rfl) ?_
  refine ge_X3_line hx hb hg hown kf_X3_21 hK hP dX3_endLine_16 ?_
  refine lv_sipush (v := 262) hx hb dX3_endLine_19 (by decide) ?_
  refine lv_icmp_lt (tgt := 52) hx hb dX3_endLine_22 (by decide) (fun c1 => ?_) (fun c1 => ?_)
  · have hF := (if_pos c1).symm.trans hF
    exact g_vret hx hb hr hlocks hP hS dX3_endLine_52 hF
  · have hF := (if_neg c1).symm.trans hF
    refine lv_aload_n hx hb dX3_endLine_25 rfl (lv_at hl 0 rfl) ?_
    refine lv_iconst (v := 0) hx hb dX3_endLine_26 (by decide) ?_
    refine pu_X3_line hi hx hb hg hown kf_X3_21 hK hP hS dX3_endLine_27 (fun H locs hP hS => ?_)
    refine lv_aload_n hx hb dX3_endLine_30 rfl (lv_at hl 0 rfl) ?_
    refine lv_dup hx hb dX3_endLine_31 rfl ?_
    refine ge_X3_frames hx hb hg hown kf_X3_28 hK hP dX3_endLine_32 ?_
    refine lv_iconst (v := 1) hx hb dX3_endLine_35 (by decide) ?_
    refine lv_iadd hx hb dX3_endLine_36 ?_
    refine pu_X3_frames hi hx hb hg hown kf_X3_28 hK hP hS dX3_endLine_37 (fun H locs hP hS => ?_)
    refine lv_aload_n hx hb dX3_endLine_40 rfl (lv_at hl 0 rfl) ?_
    refine lv_iconst (v := 0) hx hb dX3_endLine_41 (by decide) ?_
    refine pu_X3_interrupted hi hx hb hg hown kf_X3_41 hK hP hS rfl rfl dX3_endLine_42 (fun H locs hP hS => ?_)
    refine lv_aload_n hx hb dX3_endLine_45 rfl (lv_at hl 0 rfl) ?_
    refine ge_X3_timers hx hb hg hown kf_X3_13 hK hP dX3_endLine_46 ?_
    refine g_Vv hx hb hml hown hg (c_X5_fall l dC dI cI cZ x hi _) cs_X3_44 rfl rfl ⟨Nat.le_of_ble_eq_true rfl, Nat.le_of_ble_eq_true rfl⟩ hK hP hS (q0 := 5) rfl rfl rfl hl.1 rfl (Nat.le_of_ble_eq_true rfl) dX3_endLine_49 ⟨Nat.zero_le _, Nat.zero_le _⟩ (fun H locs hP hS => ?_)
    exact g_vret hx hb hr hlocks hP hS dX3_endLine_52 hF
def f_X3_pass (u : BS) (p0 : Int32) : BS :=
  let u1 : BS := bs_place u ((bq_place u) + p0)
  if (bq_place u1) < 14 then
    u1
  else
    let u2 : BS := bs_place u1 ((bq_place u1) - 14)
    let r3 : BS := f_X3_endLine u2
    r3
set_option maxHeartbeats 4000000 in
set_option maxRecDepth 100000 in
theorem c_X3_pass (l : Launch) (dC : Nat → ClassId) (dI : Nat → Nat → Nat) (cI cZ : ClassId) (x : Nat → Nat) (hi : g_inj 13 x) (u : BS) (p0 : Int32) : g_Mv l yX3_pass (.code yX3_pass cX3_pass 2 none) { frames := 2, cells := 0, slots := 0, locals := 40 } (dC, dI) vwCl (tysW cI cZ) (wB x cI cZ) (g_bA 13 x) u [.ref (x 6), .int p0] (f_X3_pass u p0) := by
  refine Met.ofW (cc := cX3_pass) (maxL := 2) (ret := none) (by decide) rfl ?_
  intro p e s m args below meth c s₁ B hml hv
  obtain ⟨rfl, hP, hK⟩ := hv
  have hx := B.exec
  have hb := B.bytes
  have hr := B.returns
  have hts := atoms_spec (ws := .code yX3_pass cX3_pass 2 none :: gtbl) B.pre
  have hg : ∀ w ∈ gtbl, w.before _ s = true := fun w h => hts w (List.mem_cons_of_mem _ h)
  have hown : s.vm.findClass RX3 = some m.cls := findClass_of_methodNamed B.named
  have hlocks := B.notSynchronized
  have hS : va_S (g_bA 13 x) s.heap s.heap [] := va_S.rf
  have hl := lv_entry ([.ref (x 6), .int p0]) (n := 2) (Nat.le_of_ble_eq_true rfl)
  rw [lg_entry_eq]
  generalize (lg_sl ([.ref (x 6), .int p0]) ++ List.replicate (2 - (lg_sl ([.ref (x 6), .int p0])).length) Slot.unset).toArray = ls at hl ⊢
  have hl : lv_has ls 2 [(0, .ref (x 6)), (1, .int p0)] := hl
  obtain ⟨F, hF⟩ : ∃ F, f_X3_pass u p0 = F := ⟨_, rfl⟩
  rw [hF]
  refine lv_aload_n hx hb dX3_pass_0 rfl (lv_at hl 0 rfl) ?_
  refine lv_dup hx hb dX3_pass_1 rfl ?_
  refine ge_X3_place hx hb hg hown kf_X3_25 hK hP dX3_pass_2 ?_
  refine lv_iload_n hx hb dX3_pass_5 rfl (lv_at hl 1 rfl) ?_
  refine lv_iadd hx hb dX3_pass_6 ?_
  refine pu_X3_place hi hx hb hg hown kf_X3_25 hK hP hS dX3_pass_7 (fun H locs hP hS => ?_)
  refine lv_aload_n hx hb dX3_pass_10 rfl (lv_at hl 0 rfl) ?_
  refine ge_X3_place hx hb hg hown kf_X3_25 hK hP dX3_pass_11 ?_
  refine lv_bipush (v := 14) hx hb dX3_pass_14 (by decide) ?_
  refine lv_icmp_lt (tgt := 34) hx hb dX3_pass_16 (by decide) (fun c1 => ?_) (fun c1 => ?_)
  · have hF := (if_pos c1).symm.trans hF
    exact g_vret hx hb hr hlocks hP hS dX3_pass_34 hF
  · have hF := (if_neg c1).symm.trans hF
    refine lv_aload_n hx hb dX3_pass_19 rfl (lv_at hl 0 rfl) ?_
    refine lv_dup hx hb dX3_pass_20 rfl ?_
    refine ge_X3_place hx hb hg hown kf_X3_25 hK hP dX3_pass_21 ?_
    refine lv_bipush (v := 14) hx hb dX3_pass_24 (by decide) ?_
    refine lv_isub hx hb dX3_pass_26 ?_
    refine pu_X3_place hi hx hb hg hown kf_X3_25 hK hP hS dX3_pass_27 (fun H locs hP hS => ?_)
    refine lv_aload_n hx hb dX3_pass_30 rfl (lv_at hl 0 rfl) ?_
    refine g_Vv hx hb hml hown hg (c_X3_endLine l dC dI cI cZ x hi _) cs_X3_35 rfl rfl ⟨Nat.le_of_ble_eq_true rfl, Nat.le_of_ble_eq_true rfl⟩ hK hP hS (q0 := 6) rfl rfl rfl hl.1 rfl (Nat.le_of_ble_eq_true rfl) dX3_pass_31 ⟨Nat.zero_le _, Nat.zero_le _⟩ (fun H locs hP hS => ?_)
    exact g_vret hx hb hr hlocks hP hS dX3_pass_34 hF
def f_X3_isShownLine (u : BS) : Int32 :=
  if (bq_line u) < 64 then
    0
  else
    if 192 ≤ (bq_line u) then
      0
    else
      1
set_option maxHeartbeats 4000000 in
set_option maxRecDepth 100000 in
theorem c_X3_isShownLine (l : Launch) (dC : Nat → ClassId) (dI : Nat → Nat → Nat) (cI cZ : ClassId) (x : Nat → Nat) (hi : g_inj 13 x) (u : BS) : g_Mi l yX3_isShownLine (.code yX3_isShownLine cX3_isShownLine 1 (some .boolean)) { frames := 0, cells := 0, slots := 0, locals := 0 } (dC, dI) vwCl (tysW cI cZ) (wB x cI cZ) (g_bA 13 x) u [.ref (x 6)] (f_X3_isShownLine u) u := by
  refine Met.ofW (cc := cX3_isShownLine) (maxL := 1) (ret := (some .boolean)) (by decide) rfl ?_
  intro p e s m args below meth c s₁ B hml hv
  obtain ⟨rfl, hP, hK⟩ := hv
  have hx := B.exec
  have hb := B.bytes
  have hr := B.returns
  have hts := atoms_spec (ws := .code yX3_isShownLine cX3_isShownLine 1 (some .boolean) :: gtbl) B.pre
  have hg : ∀ w ∈ gtbl, w.before _ s = true := fun w h => hts w (List.mem_cons_of_mem _ h)
  have hown : s.vm.findClass RX3 = some m.cls := findClass_of_methodNamed B.named
  have hlocks := B.notSynchronized
  have hS : va_S (g_bA 13 x) s.heap s.heap [] := va_S.rf
  have hl := lv_entry ([.ref (x 6)]) (n := 1) (Nat.le_of_ble_eq_true rfl)
  rw [lg_entry_eq]
  generalize (lg_sl ([.ref (x 6)]) ++ List.replicate (1 - (lg_sl ([.ref (x 6)])).length) Slot.unset).toArray = ls at hl ⊢
  have hl : lv_has ls 1 [(0, .ref (x 6))] := hl
  obtain ⟨F, hF⟩ : ∃ F, f_X3_isShownLine u = F := ⟨_, rfl⟩
  rw [hF]
  refine lv_aload_n hx hb dX3_isShownLine_0 rfl (lv_at hl 0 rfl) ?_
  refine ge_X3_line hx hb hg hown kf_X3_21 hK hP dX3_isShownLine_1 ?_
  refine lv_bipush (v := 64) hx hb dX3_isShownLine_4 (by decide) ?_
  refine lv_icmp_lt (tgt := 23) hx hb dX3_isShownLine_6 (by decide) (fun c1 => ?_) (fun c1 => ?_)
  · have hF := (if_pos c1).symm.trans hF
    refine lv_iconst (v := 0) hx hb dX3_isShownLine_23 (by decide) ?_
    exact g_zret hx hb hr hlocks hP hS dX3_isShownLine_24 rfl hF rfl
  · have hF := (if_neg c1).symm.trans hF
    refine lv_aload_n hx hb dX3_isShownLine_9 rfl (lv_at hl 0 rfl) ?_
    refine ge_X3_line hx hb hg hown kf_X3_21 hK hP dX3_isShownLine_10 ?_
    refine lv_sipush (v := 192) hx hb dX3_isShownLine_13 (by decide) ?_
    refine lv_icmp_ge (tgt := 23) hx hb dX3_isShownLine_16 (by decide) (fun c2 => ?_) (fun c2 => ?_)
    · have hF := (if_pos c2).symm.trans hF
      refine lv_iconst (v := 0) hx hb dX3_isShownLine_23 (by decide) ?_
      exact g_zret hx hb hr hlocks hP hS dX3_isShownLine_24 rfl hF rfl
    · have hF := (if_neg c2).symm.trans hF
      refine lv_iconst (v := 1) hx hb dX3_isShownLine_19 (by decide) ?_
      refine lv_goto (tgt := 24) hx hb dX3_isShownLine_20 (by decide) ?_
      exact g_zret hx hb hr hlocks hP hS dX3_isShownLine_24 rfl hF rfl
def f_X3_rowIsDue (u : BS) : Int32 :=
  if (bq_on u) = 0 then
    0
  else
    if (bq_fetched u) = 0 then
      if (bq_place u) < 2 then
        0
      else
        if (f_X3_isShownLine u) = 0 then
          0
        else
          1
    else
      0
set_option maxHeartbeats 4000000 in
set_option maxRecDepth 100000 in
theorem c_X3_rowIsDue (l : Launch) (dC : Nat → ClassId) (dI : Nat → Nat → Nat) (cI cZ : ClassId) (x : Nat → Nat) (hi : g_inj 13 x) (u : BS) : g_Mi l yX3_rowIsDue (.code yX3_rowIsDue cX3_rowIsDue 1 (some .boolean)) { frames := 1, cells := 0, slots := 0, locals := 20 } (dC, dI) vwCl (tysW cI cZ) (wB x cI cZ) (g_bA 13 x) u [.ref (x 6)] (f_X3_rowIsDue u) u := by
  refine Met.ofW (cc := cX3_rowIsDue) (maxL := 1) (ret := (some .boolean)) (by decide) rfl ?_
  intro p e s m args below meth c s₁ B hml hv
  obtain ⟨rfl, hP, hK⟩ := hv
  have hx := B.exec
  have hb := B.bytes
  have hr := B.returns
  have hts := atoms_spec (ws := .code yX3_rowIsDue cX3_rowIsDue 1 (some .boolean) :: gtbl) B.pre
  have hg : ∀ w ∈ gtbl, w.before _ s = true := fun w h => hts w (List.mem_cons_of_mem _ h)
  have hown : s.vm.findClass RX3 = some m.cls := findClass_of_methodNamed B.named
  have hlocks := B.notSynchronized
  have hS : va_S (g_bA 13 x) s.heap s.heap [] := va_S.rf
  have hl := lv_entry ([.ref (x 6)]) (n := 1) (Nat.le_of_ble_eq_true rfl)
  rw [lg_entry_eq]
  generalize (lg_sl ([.ref (x 6)]) ++ List.replicate (1 - (lg_sl ([.ref (x 6)])).length) Slot.unset).toArray = ls at hl ⊢
  have hl : lv_has ls 1 [(0, .ref (x 6))] := hl
  obtain ⟨F, hF⟩ : ∃ F, f_X3_rowIsDue u = F := ⟨_, rfl⟩
  rw [hF]
  refine lv_aload_n hx hb dX3_rowIsDue_0 rfl (lv_at hl 0 rfl) ?_
  refine ge_X3_on hx hb hg hown kf_X3_17 hK hP dX3_rowIsDue_1 ?_
  refine lv_if_eq (tgt := 33) hx hb dX3_rowIsDue_4 (by decide) (fun c1 => ?_) (fun c1 => ?_)
  · have hF := (if_pos c1).symm.trans hF
    refine lv_iconst (v := 0) hx hb dX3_rowIsDue_33 (by decide) ?_
    exact g_zret hx hb hr hlocks hP hS dX3_rowIsDue_34 rfl hF rfl
  · have hF := (if_neg c1).symm.trans hF
    refine lv_aload_n hx hb dX3_rowIsDue_7 rfl (lv_at hl 0 rfl) ?_
    refine ge_X3_fetched hx hb hg hown kf_X3_38 hK hP dX3_rowIsDue_8 ?_
    refine lv_if_ne (tgt := 33) hx hb dX3_rowIsDue_11 (by decide) (fun c2 => ?_) (fun c2 => ?_)
    · have hF := (if_neg c2).symm.trans hF
      refine lv_iconst (v := 0) hx hb dX3_rowIsDue_33 (by decide) ?_
      exact g_zret hx hb hr hlocks hP hS dX3_rowIsDue_34 rfl hF rfl
    · have hF := (if_pos c2).symm.trans hF
      refine lv_aload_n hx hb dX3_rowIsDue_14 rfl (lv_at hl 0 rfl) ?_
      refine ge_X3_place hx hb hg hown kf_X3_25 hK hP dX3_rowIsDue_15 ?_
      refine lv_iconst (v := 2) hx hb dX3_rowIsDue_18 (by decide) ?_
      refine lv_icmp_lt (tgt := 33) hx hb dX3_rowIsDue_19 (by decide) (fun c3 => ?_) (fun c3 => ?_)
      · have hF := (if_pos c3).symm.trans hF
        refine lv_iconst (v := 0) hx hb dX3_rowIsDue_33 (by decide) ?_
        exact g_zret hx hb hr hlocks hP hS dX3_rowIsDue_34 rfl hF rfl
      · have hF := (if_neg c3).symm.trans hF
        refine lv_aload_n hx hb dX3_rowIsDue_22 rfl (lv_at hl 0 rfl) ?_
        refine g_Vi hx hb hml hown hg (c_X3_isShownLine l dC dI cI cZ x hi _) cs_X3_49 rfl rfl ⟨Nat.le_of_ble_eq_true rfl, Nat.le_of_ble_eq_true rfl⟩ hK hP hS (q0 := 6) rfl rfl rfl hl.1 rfl (Nat.le_of_ble_eq_true rfl) dX3_rowIsDue_23 ⟨Nat.zero_le _, Nat.zero_le _⟩ (fun H locs hP hS => ?_)
        refine lv_if_eq (tgt := 33) hx hb dX3_rowIsDue_26 (by decide) (fun c4 => ?_) (fun c4 => ?_)
        · have hF := (if_pos c4).symm.trans hF
          refine lv_iconst (v := 0) hx hb dX3_rowIsDue_33 (by decide) ?_
          exact g_zret hx hb hr hlocks hP hS dX3_rowIsDue_34 rfl hF rfl
        · have hF := (if_neg c4).symm.trans hF
          refine lv_iconst (v := 1) hx hb dX3_rowIsDue_29 (by decide) ?_
          refine lv_goto (tgt := 34) hx hb dX3_rowIsDue_30 (by decide) ?_
          exact g_zret hx hb hr hlocks hP hS dX3_rowIsDue_34 rfl hF rfl
def f_X3_interruptIsDue (u : BS) : Int32 :=
  if (bq_on u) = 0 then
    0
  else
    if (bq_intr u) = 0 then
      if (bq_line u) = 62 then
        1
      else
        if (bq_line u) = 63 then
          1
        else
          0
    else
      0
set_option maxHeartbeats 4000000 in
set_option maxRecDepth 100000 in
theorem c_X3_interruptIsDue (l : Launch) (dC : Nat → ClassId) (dI : Nat → Nat → Nat) (cI cZ : ClassId) (x : Nat → Nat) (hi : g_inj 13 x) (u : BS) : g_Mi l yX3_interruptIsDue (.code yX3_interruptIsDue cX3_interruptIsDue 1 (some .boolean)) { frames := 0, cells := 0, slots := 0, locals := 0 } (dC, dI) vwCl (tysW cI cZ) (wB x cI cZ) (g_bA 13 x) u [.ref (x 6)] (f_X3_interruptIsDue u) u := by
  refine Met.ofW (cc := cX3_interruptIsDue) (maxL := 1) (ret := (some .boolean)) (by decide) rfl ?_
  intro p e s m args below meth c s₁ B hml hv
  obtain ⟨rfl, hP, hK⟩ := hv
  have hx := B.exec
  have hb := B.bytes
  have hr := B.returns
  have hts := atoms_spec (ws := .code yX3_interruptIsDue cX3_interruptIsDue 1 (some .boolean) :: gtbl) B.pre
  have hg : ∀ w ∈ gtbl, w.before _ s = true := fun w h => hts w (List.mem_cons_of_mem _ h)
  have hown : s.vm.findClass RX3 = some m.cls := findClass_of_methodNamed B.named
  have hlocks := B.notSynchronized
  have hS : va_S (g_bA 13 x) s.heap s.heap [] := va_S.rf
  have hl := lv_entry ([.ref (x 6)]) (n := 1) (Nat.le_of_ble_eq_true rfl)
  rw [lg_entry_eq]
  generalize (lg_sl ([.ref (x 6)]) ++ List.replicate (1 - (lg_sl ([.ref (x 6)])).length) Slot.unset).toArray = ls at hl ⊢
  have hl : lv_has ls 1 [(0, .ref (x 6))] := hl
  obtain ⟨F, hF⟩ : ∃ F, f_X3_interruptIsDue u = F := ⟨_, rfl⟩
  rw [hF]
  refine lv_aload_n hx hb dX3_interruptIsDue_0 rfl (lv_at hl 0 rfl) ?_
  refine ge_X3_on hx hb hg hown kf_X3_17 hK hP dX3_interruptIsDue_1 ?_
  refine lv_if_eq (tgt := 36) hx hb dX3_interruptIsDue_4 (by decide) (fun c1 => ?_) (fun c1 => ?_)
  · have hF := (if_pos c1).symm.trans hF
    refine lv_iconst (v := 0) hx hb dX3_interruptIsDue_36 (by decide) ?_
    exact g_zret hx hb hr hlocks hP hS dX3_interruptIsDue_37 rfl hF rfl
  · have hF := (if_neg c1).symm.trans hF
    refine lv_aload_n hx hb dX3_interruptIsDue_7 rfl (lv_at hl 0 rfl) ?_
    refine ge_X3_interrupted hx hb hg hown kf_X3_41 hK hP dX3_interruptIsDue_8 ?_
    refine lv_if_ne (tgt := 36) hx hb dX3_interruptIsDue_11 (by decide) (fun c2 => ?_) (fun c2 => ?_)
    · have hF := (if_neg c2).symm.trans hF
      refine lv_iconst (v := 0) hx hb dX3_interruptIsDue_36 (by decide) ?_
      exact g_zret hx hb hr hlocks hP hS dX3_interruptIsDue_37 rfl hF rfl
    · have hF := (if_pos c2).symm.trans hF
      refine lv_aload_n hx hb dX3_interruptIsDue_14 rfl (lv_at hl 0 rfl) ?_
      refine ge_X3_line hx hb hg hown kf_X3_21 hK hP dX3_interruptIsDue_15 ?_
      refine lv_bipush (v := 62) hx hb dX3_interruptIsDue_18 (by decide) ?_
      refine lv_icmp_eq (tgt := 32) hx hb dX3_interruptIsDue_20 (by decide) (fun c3 => ?_) (fun c3 => ?_)
      · have hF := (if_pos c3).symm.trans hF
        refine lv_iconst (v := 1) hx hb dX3_interruptIsDue_32 (by decide) ?_
        refine lv_goto (tgt := 37) hx hb dX3_interruptIsDue_33 (by decide) ?_
        exact g_zret hx hb hr hlocks hP hS dX3_interruptIsDue_37 rfl hF rfl
      · have hF := (if_neg c3).symm.trans hF
        refine lv_aload_n hx hb dX3_interruptIsDue_23 rfl (lv_at hl 0 rfl) ?_
        refine ge_X3_line hx hb hg hown kf_X3_21 hK hP dX3_interruptIsDue_24 ?_
        refine lv_bipush (v := 63) hx hb dX3_interruptIsDue_27 (by decide) ?_
        refine lv_icmp_ne (tgt := 36) hx hb dX3_interruptIsDue_29 (by decide) (fun c4 => ?_) (fun c4 => ?_)
        · have hF := (if_neg c4).symm.trans hF
          refine lv_iconst (v := 0) hx hb dX3_interruptIsDue_36 (by decide) ?_
          exact g_zret hx hb hr hlocks hP hS dX3_interruptIsDue_37 rfl hF rfl
        · have hF := (if_pos c4).symm.trans hF
          refine lv_iconst (v := 1) hx hb dX3_interruptIsDue_32 (by decide) ?_
          refine lv_goto (tgt := 37) hx hb dX3_interruptIsDue_33 (by decide) ?_
          exact g_zret hx hb hr hlocks hP hS dX3_interruptIsDue_37 rfl hF rfl
def f_X3_noteInterrupt (u : BS) : BS :=
  let u1 : BS := bs_intr u 1
  u1
set_option maxHeartbeats 4000000 in
set_option maxRecDepth 100000 in
theorem c_X3_noteInterrupt (l : Launch) (dC : Nat → ClassId) (dI : Nat → Nat → Nat) (cI cZ : ClassId) (x : Nat → Nat) (hi : g_inj 13 x) (u : BS) : g_Mv l yX3_noteInterrupt (.code yX3_noteInterrupt cX3_noteInterrupt 1 none) { frames := 0, cells := 0, slots := 0, locals := 0 } (dC, dI) vwCl (tysW cI cZ) (wB x cI cZ) (g_bA 13 x) u [.ref (x 6)] (f_X3_noteInterrupt u) := by
  refine Met.ofW (cc := cX3_noteInterrupt) (maxL := 1) (ret := none) (by decide) rfl ?_
  intro p e s m args below meth c s₁ B hml hv
  obtain ⟨rfl, hP, hK⟩ := hv
  have hx := B.exec
  have hb := B.bytes
  have hr := B.returns
  have hts := atoms_spec (ws := .code yX3_noteInterrupt cX3_noteInterrupt 1 none :: gtbl) B.pre
  have hg : ∀ w ∈ gtbl, w.before _ s = true := fun w h => hts w (List.mem_cons_of_mem _ h)
  have hown : s.vm.findClass RX3 = some m.cls := findClass_of_methodNamed B.named
  have hlocks := B.notSynchronized
  have hS : va_S (g_bA 13 x) s.heap s.heap [] := va_S.rf
  have hl := lv_entry ([.ref (x 6)]) (n := 1) (Nat.le_of_ble_eq_true rfl)
  rw [lg_entry_eq]
  generalize (lg_sl ([.ref (x 6)]) ++ List.replicate (1 - (lg_sl ([.ref (x 6)])).length) Slot.unset).toArray = ls at hl ⊢
  have hl : lv_has ls 1 [(0, .ref (x 6))] := hl
  obtain ⟨F, hF⟩ : ∃ F, f_X3_noteInterrupt u = F := ⟨_, rfl⟩
  rw [hF]
  refine lv_aload_n hx hb dX3_noteInterrupt_0 rfl (lv_at hl 0 rfl) ?_
  refine lv_iconst (v := 1) hx hb dX3_noteInterrupt_1 (by decide) ?_
  refine pu_X3_interrupted hi hx hb hg hown kf_X3_41 hK hP hS rfl rfl dX3_noteInterrupt_2 (fun H locs hP hS => ?_)
  exact g_vret hx hb hr hlocks hP hS dX3_noteInterrupt_5 hF
def f_X3_noteFetch (u : BS) : BS :=
  let u1 : BS := bs_fetched u 1
  u1
set_option maxHeartbeats 4000000 in
set_option maxRecDepth 100000 in
theorem c_X3_noteFetch (l : Launch) (dC : Nat → ClassId) (dI : Nat → Nat → Nat) (cI cZ : ClassId) (x : Nat → Nat) (hi : g_inj 13 x) (u : BS) : g_Mv l yX3_noteFetch (.code yX3_noteFetch cX3_noteFetch 1 none) { frames := 0, cells := 0, slots := 0, locals := 0 } (dC, dI) vwCl (tysW cI cZ) (wB x cI cZ) (g_bA 13 x) u [.ref (x 6)] (f_X3_noteFetch u) := by
  refine Met.ofW (cc := cX3_noteFetch) (maxL := 1) (ret := none) (by decide) rfl ?_
  intro p e s m args below meth c s₁ B hml hv
  obtain ⟨rfl, hP, hK⟩ := hv
  have hx := B.exec
  have hb := B.bytes
  have hr := B.returns
  have hts := atoms_spec (ws := .code yX3_noteFetch cX3_noteFetch 1 none :: gtbl) B.pre
  have hg : ∀ w ∈ gtbl, w.before _ s = true := fun w h => hts w (List.mem_cons_of_mem _ h)
  have hown : s.vm.findClass RX3 = some m.cls := findClass_of_methodNamed B.named
  have hlocks := B.notSynchronized
  have hS : va_S (g_bA 13 x) s.heap s.heap [] := va_S.rf
  have hl := lv_entry ([.ref (x 6)]) (n := 1) (Nat.le_of_ble_eq_true rfl)
  rw [lg_entry_eq]
  generalize (lg_sl ([.ref (x 6)]) ++ List.replicate (1 - (lg_sl ([.ref (x 6)])).length) Slot.unset).toArray = ls at hl ⊢
  have hl : lv_has ls 1 [(0, .ref (x 6))] := hl
  obtain ⟨F, hF⟩ : ∃ F, f_X3_noteFetch u = F := ⟨_, rfl⟩
  rw [hF]
  refine lv_aload_n hx hb dX3_noteFetch_0 rfl (lv_at hl 0 rfl) ?_
  refine lv_iconst (v := 1) hx hb dX3_noteFetch_1 (by decide) ?_
  refine pu_X3_fetched hi hx hb hg hown kf_X3_38 hK hP hS rfl rfl dX3_noteFetch_2 (fun H locs hP hS => ?_)
  exact g_vret hx hb hr hlocks hP hS dX3_noteFetch_5 hF
def f_X3_spot (u : BS) (p0 : Int32) (p1 : Int32) : Int32 :=
  (((p0 * 8) + p1) &&& 1023)
set_option maxHeartbeats 4000000 in
set_option maxRecDepth 100000 in
theorem c_X3_spot (l : Launch) (dC : Nat → ClassId) (dI : Nat → Nat → Nat) (cI cZ : ClassId) (x : Nat → Nat) (hi : g_inj 13 x) (u : BS) (p0 : Int32) (p1 : Int32) : g_Mi l yX3_spot (.code yX3_spot cX3_spot 2 (some .int)) { frames := 0, cells := 0, slots := 0, locals := 0 } (dC, dI) vwCl (tysW cI cZ) (wB x cI cZ) (g_bA 13 x) u [.int p0, .int p1] (f_X3_spot u p0 p1) u := by
  refine Met.ofW (cc := cX3_spot) (maxL := 2) (ret := (some .int)) (by decide) rfl ?_
  intro p e s m args below meth c s₁ B hml hv
  obtain ⟨rfl, hP, hK⟩ := hv
  have hx := B.exec
  have hb := B.bytes
  have hr := B.returns
  have hts := atoms_spec (ws := .code yX3_spot cX3_spot 2 (some .int) :: gtbl) B.pre
  have hg : ∀ w ∈ gtbl, w.before _ s = true := fun w h => hts w (List.mem_cons_of_mem _ h)
  have hown : s.vm.findClass RX3 = some m.cls := findClass_of_methodNamed B.named
  have hlocks := B.notSynchronized
  have hS : va_S (g_bA 13 x) s.heap s.heap [] := va_S.rf
  have hl := lv_entry ([.int p0, .int p1]) (n := 2) (Nat.le_of_ble_eq_true rfl)
  rw [lg_entry_eq]
  generalize (lg_sl ([.int p0, .int p1]) ++ List.replicate (2 - (lg_sl ([.int p0, .int p1])).length) Slot.unset).toArray = ls at hl ⊢
  have hl : lv_has ls 2 [(0, .int p0), (1, .int p1)] := hl
  obtain ⟨F, hF⟩ : ∃ F, f_X3_spot u p0 p1 = F := ⟨_, rfl⟩
  rw [hF]
  refine lv_iload_n hx hb dX3_spot_0 rfl (lv_at hl 0 rfl) ?_
  refine lv_bipush (v := 8) hx hb dX3_spot_1 (by decide) ?_
  refine lv_imul hx hb dX3_spot_3 ?_
  refine lv_iload_n hx hb dX3_spot_4 rfl (lv_at hl 1 rfl) ?_
  refine lv_iadd hx hb dX3_spot_5 ?_
  refine lv_sipush (v := 1023) hx hb dX3_spot_6 (by decide) ?_
  refine lv_iand hx hb dX3_spot_9 ?_
  exact g_iret hx hb hr hlocks hP hS dX3_spot_10 hF rfl
def f_X3_keep (u : BS) (p0 : Int32) (p1 : Int32) : BS :=
  let u1 : BS := bs_screen u (upd (bq_screen u) ((f_X3_spot u ((bq_line u) - 64) p0)).toNatClampNeg p1)
  u1
def ok_X3_keep (u : BS) (p0 : Int32) (p1 : Int32) : Prop :=
  vp_in (f_X3_spot u ((bq_line u) - 64) p0) 1024 ∧
  let u1 : BS := bs_screen u (upd (bq_screen u) ((f_X3_spot u ((bq_line u) - 64) p0)).toNatClampNeg p1)
  True
set_option maxHeartbeats 4000000 in
set_option maxRecDepth 100000 in
theorem c_X3_keep (l : Launch) (dC : Nat → ClassId) (dI : Nat → Nat → Nat) (cI cZ : ClassId) (x : Nat → Nat) (hi : g_inj 13 x) (u : BS) (p0 : Int32) (p1 : Int32) (hok : ok_X3_keep u p0 p1) : g_Mv l yX3_keep (.code yX3_keep cX3_keep 3 none) { frames := 1, cells := 0, slots := 0, locals := 21 } (dC, dI) vwCl (tysW cI cZ) (wB x cI cZ) (g_bA 13 x) u [.ref (x 6), .int p0, .int p1] (f_X3_keep u p0 p1) := by
  refine Met.ofW (cc := cX3_keep) (maxL := 3) (ret := none) (by decide) rfl ?_
  intro p e s m args below meth c s₁ B hml hv
  obtain ⟨rfl, hP, hK⟩ := hv
  have hx := B.exec
  have hb := B.bytes
  have hr := B.returns
  have hts := atoms_spec (ws := .code yX3_keep cX3_keep 3 none :: gtbl) B.pre
  have hg : ∀ w ∈ gtbl, w.before _ s = true := fun w h => hts w (List.mem_cons_of_mem _ h)
  have hown : s.vm.findClass RX3 = some m.cls := findClass_of_methodNamed B.named
  have hlocks := B.notSynchronized
  have hS : va_S (g_bA 13 x) s.heap s.heap [] := va_S.rf
  have hl := lv_entry ([.ref (x 6), .int p0, .int p1]) (n := 3) (Nat.le_of_ble_eq_true rfl)
  rw [lg_entry_eq]
  generalize (lg_sl ([.ref (x 6), .int p0, .int p1]) ++ List.replicate (3 - (lg_sl ([.ref (x 6), .int p0, .int p1])).length) Slot.unset).toArray = ls at hl ⊢
  have hl : lv_has ls 3 [(0, .ref (x 6)), (1, .int p0), (2, .int p1)] := hl
  obtain ⟨F, hF⟩ : ∃ F, f_X3_keep u p0 p1 = F := ⟨_, rfl⟩
  rw [hF]
  refine lv_aload_n hx hb dX3_keep_0 rfl (lv_at hl 0 rfl) ?_
  refine ge_X3_screen hx hb hg hown kf_X3_9 hK hP dX3_keep_1 ?_
  refine lv_aload_n hx hb dX3_keep_4 rfl (lv_at hl 0 rfl) ?_
  refine ge_X3_line hx hb hg hown kf_X3_21 hK hP dX3_keep_5 ?_
  refine lv_bipush (v := 64) hx hb dX3_keep_8 (by decide) ?_
  refine lv_isub hx hb dX3_keep_10 ?_
  refine lv_iload_n hx hb dX3_keep_11 rfl (lv_at hl 1 rfl) ?_
  refine g_Si hx hb hml hown hg (c_X3_spot l dC dI cI cZ x hi _ _ _) cs_X3_52 rfl rfl ⟨Nat.le_of_ble_eq_true rfl, Nat.le_of_ble_eq_true rfl⟩ hK hP hS rfl hl.1 rfl (Nat.le_of_ble_eq_true rfl) dX3_keep_12 ⟨Nat.zero_le _, Nat.zero_le _⟩ (fun H locs hP hS => ?_)
  refine lv_iload_n hx hb dX3_keep_15 rfl (lv_at hl 2 rfl) ?_
  obtain ⟨c1, hok⟩ := hok
  refine ba_screen hi hx hb hK hP hS c1 dX3_keep_16 (fun H locs hP hS => ?_)
  exact g_vret hx hb hr hlocks hP hS dX3_keep_17 hF
def f_X3_fetchedByte (u : BS) (p0 : Int32) (p1 : Int32) : Int32 :=
  (bq_screen u ((f_X3_spot u p0 p1)).toNatClampNeg)
def ok_X3_fetchedByte (u : BS) (p0 : Int32) (p1 : Int32) : Prop :=
  vp_in (f_X3_spot u p0 p1) 1024 ∧
  True
set_option maxHeartbeats 4000000 in
set_option maxRecDepth 100000 in
theorem c_X3_fetchedByte (l : Launch) (dC : Nat → ClassId) (dI : Nat → Nat → Nat) (cI cZ : ClassId) (x : Nat → Nat) (hi : g_inj 13 x) (u : BS) (p0 : Int32) (p1 : Int32) (hok : ok_X3_fetchedByte u p0 p1) : g_Mi l yX3_fetchedByte (.code yX3_fetchedByte cX3_fetchedByte 3 (some .int)) { frames := 1, cells := 0, slots := 0, locals := 21 } (dC, dI) vwCl (tysW cI cZ) (wB x cI cZ) (g_bA 13 x) u [.ref (x 6), .int p0, .int p1] (f_X3_fetchedByte u p0 p1) u := by
  refine Met.ofW (cc := cX3_fetchedByte) (maxL := 3) (ret := (some .int)) (by decide) rfl ?_
  intro p e s m args below meth c s₁ B hml hv
  obtain ⟨rfl, hP, hK⟩ := hv
  have hx := B.exec
  have hb := B.bytes
  have hr := B.returns
  have hts := atoms_spec (ws := .code yX3_fetchedByte cX3_fetchedByte 3 (some .int) :: gtbl) B.pre
  have hg : ∀ w ∈ gtbl, w.before _ s = true := fun w h => hts w (List.mem_cons_of_mem _ h)
  have hown : s.vm.findClass RX3 = some m.cls := findClass_of_methodNamed B.named
  have hlocks := B.notSynchronized
  have hS : va_S (g_bA 13 x) s.heap s.heap [] := va_S.rf
  have hl := lv_entry ([.ref (x 6), .int p0, .int p1]) (n := 3) (Nat.le_of_ble_eq_true rfl)
  rw [lg_entry_eq]
  generalize (lg_sl ([.ref (x 6), .int p0, .int p1]) ++ List.replicate (3 - (lg_sl ([.ref (x 6), .int p0, .int p1])).length) Slot.unset).toArray = ls at hl ⊢
  have hl : lv_has ls 3 [(0, .ref (x 6)), (1, .int p0), (2, .int p1)] := hl
  obtain ⟨F, hF⟩ : ∃ F, f_X3_fetchedByte u p0 p1 = F := ⟨_, rfl⟩
  rw [hF]
  refine lv_aload_n hx hb dX3_fetchedByte_0 rfl (lv_at hl 0 rfl) ?_
  refine ge_X3_screen hx hb hg hown kf_X3_9 hK hP dX3_fetchedByte_1 ?_
  refine lv_iload_n hx hb dX3_fetchedByte_4 rfl (lv_at hl 1 rfl) ?_
  refine lv_iload_n hx hb dX3_fetchedByte_5 rfl (lv_at hl 2 rfl) ?_
  refine g_Si hx hb hml hown hg (c_X3_spot l dC dI cI cZ x hi _ _ _) cs_X3_52 rfl rfl ⟨Nat.le_of_ble_eq_true rfl, Nat.le_of_ble_eq_true rfl⟩ hK hP hS rfl hl.1 rfl (Nat.le_of_ble_eq_true rfl) dX3_fetchedByte_6 ⟨Nat.zero_le _, Nat.zero_le _⟩ (fun H locs hP hS => ?_)
  obtain ⟨c1, hok⟩ := hok
  refine bl_screen hx hb hK hP c1 dX3_fetchedByte_9 ?_
  exact g_iret hx hb hr hlocks hP hS dX3_fetchedByte_10 hF rfl
