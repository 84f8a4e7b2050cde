def f_X7_thrown (u : MS) : Int32 :=
  (mq_thrown u)
set_option maxHeartbeats 4000000 in
set_option maxRecDepth 100000 in
theorem c_X7_thrown (l : Launch) (dC : Nat → ClassId) (dI : Nat → Nat → Nat) (cI cZ : ClassId) (x : Nat → Nat) (hi : g_inj 7 x) (u : MS) : g_Mi l yX7_thrown (.code yX7_thrown cX7_thrown 1 (some .int)) { frames := 0, cells := 0, slots := 0, locals := 0 } (dC, dI) vwCl (tysW cI cZ) (wM x cI cZ) (g_bA 7 x) u [.ref (x 0)] (f_X7_thrown u) u := by
  refine Met.ofW (cc := cX7_thrown) (maxL := 1) (ret := (some .int)) (by decide) rfl ?_
  intro p e s m args below meth c s₁ B hml hv
  obtain ⟨rfl, hP, hK⟩ := hv
  have hx := B.exec
  have hb := B.bytes
  have hr := B.returns
  have hts := atoms_spec (ws := .code yX7_thrown cX7_thrown 1 (some .int) :: gtbl) B.pre
  have hg : ∀ w ∈ gtbl, w.before _ s = true := fun w h => hts w (List.mem_cons_of_mem _ h)
  have hown : s.vm.findClass RX7 = some m.cls := findClass_of_methodNamed B.named
  have hlocks := B.notSynchronized
  have hS : va_S (g_bA 7 x) s.heap s.heap [] := va_S.rf
  have hl := lv_entry ([.ref (x 0)]) (n := 1) (Nat.le_of_ble_eq_true rfl)
  rw [lg_entry_eq]
  generalize (lg_sl ([.ref (x 0)]) ++ List.replicate (1 - (lg_sl ([.ref (x 0)])).length) Slot.unset).toArray = ls at hl ⊢
  have hl : lv_has ls 1 [(0, .ref (x 0))] := hl
  obtain ⟨F, hF⟩ : ∃ F, f_X7_thrown u = F := ⟨_, rfl⟩
  rw [hF]
  refine lv_aload_n hx hb dX7_thrown_0 rfl (lv_at hl 0 rfl) ?_
  refine ge_X7_thrown hx hb hg hown kf_X7_29 hK hP dX7_thrown_1 ?_
  exact g_iret hx hb hr hlocks hP hS dX7_thrown_4 hF rfl
def f_X7_fails (u : MS) (p0 : Int32) (p1 : Int32) : Int32 × MS :=
  if p0 = 0 then
    let u1 : MS := ms_thrown u 0
    ((vp_nar .boolean p0), u1)
  else
    let u2 : MS := ms_thrown u p1
    ((vp_nar .boolean p0), u2)
set_option maxHeartbeats 4000000 in
set_option maxRecDepth 100000 in
theorem c_X7_fails (l : Launch) (dC : Nat → ClassId) (dI : Nat → Nat → Nat) (cI cZ : ClassId) (x : Nat → Nat) (hi : g_inj 7 x) (u : MS) (p0 : Int32) (p1 : Int32) : g_Mi l yX7_fails (.code yX7_fails cX7_fails 3 (some .boolean)) { frames := 0, cells := 0, slots := 0, locals := 0 } (dC, dI) vwCl (tysW cI cZ) (wM x cI cZ) (g_bA 7 x) u [.ref (x 0), .int p0, .int p1] (f_X7_fails u p0 p1).1 (f_X7_fails u p0 p1).2 := by
  refine Met.ofW (cc := cX7_fails) (maxL := 3) (ret := (some .boolean)) (by decide) rfl ?_
  intro p e s m args below meth c s₁ B hml hv
  obtain ⟨rfl, hP, hK⟩ := hv
  have hx := B.exec
  have hb := B.bytes
  have hr := B.returns
  have hts := atoms_spec (ws := .code yX7_fails cX7_fails 3 (some .boolean) :: gtbl) B.pre
  have hg : ∀ w ∈ gtbl, w.before _ s = true := fun w h => hts w (List.mem_cons_of_mem _ h)
  have hown : s.vm.findClass RX7 = some m.cls := findClass_of_methodNamed B.named
  have hlocks := B.notSynchronized
  have hS : va_S (g_bA 7 x) s.heap s.heap [] := va_S.rf
  have hl := lv_entry ([.ref (x 0), .int p0, .int p1]) (n := 3) (Nat.le_of_ble_eq_true rfl)
  rw [lg_entry_eq]
  generalize (lg_sl ([.ref (x 0), .int p0, .int p1]) ++ List.replicate (3 - (lg_sl ([.ref (x 0), .int p0, .int p1])).length) Slot.unset).toArray = ls at hl ⊢
  have hl : lv_has ls 3 [(0, .ref (x 0)), (1, .int p0), (2, .int p1)] := hl
  obtain ⟨F, hF⟩ : ∃ F, f_X7_fails u p0 p1 = F := ⟨_, rfl⟩
  rw [hF]
  refine lv_aload_n hx hb dX7_fails_0 rfl (lv_at hl 0 rfl) ?_
  refine lv_iload_n hx hb dX7_fails_1 rfl (lv_at hl 1 rfl) ?_
  refine lv_if_eq (tgt := 9) hx hb dX7_fails_2 (by decide) (fun c1 => ?_) (fun c1 => ?_)
  · have hF := (if_pos c1).symm.trans hF
    refine lv_iconst (v := 0) hx hb dX7_fails_9 (by decide) ?_
    refine pu_X7_thrown hi hx hb hg hown kf_X7_29 hK hP hS dX7_fails_10 (fun H locs hP hS => ?_)
    refine lv_iload_n hx hb dX7_fails_13 rfl (lv_at hl 1 rfl) ?_
    have hF : (_, _) = F := hF
    exact g_zretN hx hb hr hlocks hP hS dX7_fails_14 (g_p1 hF) (g_p2 hF)
  · have hF := (if_neg c1).symm.trans hF
    refine lv_iload_n hx hb dX7_fails_5 rfl (lv_at hl 2 rfl) ?_
    refine lv_goto (tgt := 10) hx hb dX7_fails_6 (by decide) ?_
    refine pu_X7_thrown hi hx hb hg hown kf_X7_29 hK hP hS dX7_fails_10 (fun H locs hP hS => ?_)
    refine lv_iload_n hx hb dX7_fails_13 rfl (lv_at hl 1 rfl) ?_
    have hF : (_, _) = F := hF
    exact g_zretN hx hb hr hlocks hP hS dX7_fails_14 (g_p1 hF) (g_p2 hF)
def f_X7_out (u : MS) (p0 : Int32) (p1 : Int32) : Int32 :=
  if p0 < 0 then
    1
  else
    if p0 < p1 then
      0
    else
      1
set_option maxHeartbeats 4000000 in
set_option maxRecDepth 100000 in
theorem c_X7_out (l : Launch) (dC : Nat → ClassId) (dI : Nat → Nat → Nat) (cI cZ : ClassId) (x : Nat → Nat) (hi : g_inj 7 x) (u : MS) (p0 : Int32) (p1 : Int32) : g_Mi l yX7_out (.code yX7_out cX7_out 2 (some .boolean)) { frames := 0, cells := 0, slots := 0, locals := 0 } (dC, dI) vwCl (tysW cI cZ) (wM x cI cZ) (g_bA 7 x) u [.int p0, .int p1] (f_X7_out u p0 p1) u := by
  refine Met.ofW (cc := cX7_out) (maxL := 2) (ret := (some .boolean)) (by decide) rfl ?_
  intro p e s m args below meth c s₁ B hml hv
  obtain ⟨rfl, hP, hK⟩ := hv
  have hx := B.exec
  have hb := B.bytes
  have hr := B.returns
  have hts := atoms_spec (ws := .code yX7_out cX7_out 2 (some .boolean) :: gtbl) B.pre
  have hg : ∀ w ∈ gtbl, w.before _ s = true := fun w h => hts w (List.mem_cons_of_mem _ h)
  have hown : s.vm.findClass RX7 = some m.cls := findClass_of_methodNamed B.named
  have hlocks := B.notSynchronized
  have hS : va_S (g_bA 7 x) s.heap s.heap [] := va_S.rf
  have hl := lv_entry ([.int p0, .int p1]) (n := 2) (Nat.le_of_ble_eq_true rfl)
  rw [lg_entry_eq]
  generalize (lg_sl ([.int p0, .int p1]) ++ List.replicate (2 - (lg_sl ([.int p0, .int p1])).length) Slot.unset).toArray = ls at hl ⊢
  have hl : lv_has ls 2 [(0, .int p0), (1, .int p1)] := hl
  obtain ⟨F, hF⟩ : ∃ F, f_X7_out u p0 p1 = F := ⟨_, rfl⟩
  rw [hF]
  refine lv_iload_n hx hb dX7_out_0 rfl (lv_at hl 0 rfl) ?_
  refine lv_if_lt (tgt := 9) hx hb dX7_out_1 (by decide) (fun c1 => ?_) (fun c1 => ?_)
  · have hF := (if_pos c1).symm.trans hF
    refine lv_iconst (v := 1) hx hb dX7_out_9 (by decide) ?_
    refine lv_goto (tgt := 14) hx hb dX7_out_10 (by decide) ?_
    exact g_zret hx hb hr hlocks hP hS dX7_out_14 rfl hF rfl
  · have hF := (if_neg c1).symm.trans hF
    refine lv_iload_n hx hb dX7_out_4 rfl (lv_at hl 0 rfl) ?_
    refine lv_iload_n hx hb dX7_out_5 rfl (lv_at hl 1 rfl) ?_
    refine lv_icmp_lt (tgt := 13) hx hb dX7_out_6 (by decide) (fun c2 => ?_) (fun c2 => ?_)
    · have hF := (if_pos c2).symm.trans hF
      refine lv_iconst (v := 0) hx hb dX7_out_13 (by decide) ?_
      exact g_zret hx hb hr hlocks hP hS dX7_out_14 rfl hF rfl
    · have hF := (if_neg c2).symm.trans hF
      refine lv_iconst (v := 1) hx hb dX7_out_9 (by decide) ?_
      refine lv_goto (tgt := 14) hx hb dX7_out_10 (by decide) ?_
      exact g_zret hx hb hr hlocks hP hS dX7_out_14 rfl hF rfl
def f_X7_byteAt (u : MS) (p0 : Int32) : Int32 :=
  (mq_mem u ((p0 &&& 2047)).toNatClampNeg)
set_option maxHeartbeats 4000000 in
set_option maxRecDepth 100000 in
theorem c_X7_byteAt (l : Launch) (dC : Nat → ClassId) (dI : Nat → Nat → Nat) (cI cZ : ClassId) (x : Nat → Nat) (hi : g_inj 7 x) (u : MS) (p0 : Int32) : g_Mi l yX7_byteAt (.code yX7_byteAt cX7_byteAt 2 (some .int)) { frames := 0, cells := 0, slots := 0, locals := 0 } (dC, dI) vwCl (tysW cI cZ) (wM x cI cZ) (g_bA 7 x) u [.ref (x 0), .int p0] (f_X7_byteAt u p0) u := by
  refine Met.ofW (cc := cX7_byteAt) (maxL := 2) (ret := (some .int)) (by decide) rfl ?_
  intro p e s m args below meth c s₁ B hml hv
  obtain ⟨rfl, hP, hK⟩ := hv
  have hx := B.exec
  have hb := B.bytes
  have hr := B.returns
  have hts := atoms_spec (ws := .code yX7_byteAt cX7_byteAt 2 (some .int) :: gtbl) B.pre
  have hg : ∀ w ∈ gtbl, w.before _ s = true := fun w h => hts w (List.mem_cons_of_mem _ h)
  have hown : s.vm.findClass RX7 = some m.cls := findClass_of_methodNamed B.named
  have hlocks := B.notSynchronized
  have hS : va_S (g_bA 7 x) s.heap s.heap [] := va_S.rf
  have hl := lv_entry ([.ref (x 0), .int p0]) (n := 2) (Nat.le_of_ble_eq_true rfl)
  rw [lg_entry_eq]
  generalize (lg_sl ([.ref (x 0), .int p0]) ++ List.replicate (2 - (lg_sl ([.ref (x 0), .int p0])).length) Slot.unset).toArray = ls at hl ⊢
  have hl : lv_has ls 2 [(0, .ref (x 0)), (1, .int p0)] := hl
  obtain ⟨F, hF⟩ : ∃ F, f_X7_byteAt u p0 = F := ⟨_, rfl⟩
  rw [hF]
  refine lv_aload_n hx hb dX7_byteAt_0 rfl (lv_at hl 0 rfl) ?_
  refine ge_X7_memory hx hb hg hown kf_X7_7 hK hP dX7_byteAt_1 ?_
  refine lv_iload_n hx hb dX7_byteAt_4 rfl (lv_at hl 1 rfl) ?_
  refine lv_sipush (v := 2047) hx hb dX7_byteAt_5 (by decide) ?_
  refine lv_iand hx hb dX7_byteAt_8 ?_
  refine ml_mem hx hb hK hP (pk_andIn _ 11 rfl (by decide)) dX7_byteAt_9 ?_
  exact g_iret hx hb hr hlocks hP hS dX7_byteAt_10 hF rfl
def f_X7_store (u : MS) (p0 : Int32) (p1 : Int32) : MS :=
  let u1 : MS := ms_mem u (upd (mq_mem u) ((p0 &&& 2047)).toNatClampNeg (p1 &&& 255))
  u1
set_option maxHeartbeats 4000000 in
set_option maxRecDepth 100000 in
theorem c_X7_store (l : Launch) (dC : Nat → ClassId) (dI : Nat → Nat → Nat) (cI cZ : ClassId) (x : Nat → Nat) (hi : g_inj 7 x) (u : MS) (p0 : Int32) (p1 : Int32) : g_Mv l yX7_store (.code yX7_store cX7_store 3 none) { frames := 0, cells := 0, slots := 0, locals := 0 } (dC, dI) vwCl (tysW cI cZ) (wM x cI cZ) (g_bA 7 x) u [.ref (x 0), .int p0, .int p1] (f_X7_store u p0 p1) := by
  refine Met.ofW (cc := cX7_store) (maxL := 3) (ret := none) (by decide) rfl ?_
  intro p e s m args below meth c s₁ B hml hv
  obtain ⟨rfl, hP, hK⟩ := hv
  have hx := B.exec
  have hb := B.bytes
  have hr := B.returns
  have hts := atoms_spec (ws := .code yX7_store cX7_store 3 none :: gtbl) B.pre
  have hg : ∀ w ∈ gtbl, w.before _ s = true := fun w h => hts w (List.mem_cons_of_mem _ h)
  have hown : s.vm.findClass RX7 = some m.cls := findClass_of_methodNamed B.named
  have hlocks := B.notSynchronized
  have hS : va_S (g_bA 7 x) s.heap s.heap [] := va_S.rf
  have hl := lv_entry ([.ref (x 0), .int p0, .int p1]) (n := 3) (Nat.le_of_ble_eq_true rfl)
  rw [lg_entry_eq]
  generalize (lg_sl ([.ref (x 0), .int p0, .int p1]) ++ List.replicate (3 - (lg_sl ([.ref (x 0), .int p0, .int p1])).length) Slot.unset).toArray = ls at hl ⊢
  have hl : lv_has ls 3 [(0, .ref (x 0)), (1, .int p0), (2, .int p1)] := hl
  obtain ⟨F, hF⟩ : ∃ F, f_X7_store u p0 p1 = F := ⟨_, rfl⟩
  rw [hF]
  refine lv_aload_n hx hb dX7_store_0 rfl (lv_at hl 0 rfl) ?_
  refine ge_X7_memory hx hb hg hown kf_X7_7 hK hP dX7_store_1 ?_
  refine lv_iload_n hx hb dX7_store_4 rfl (lv_at hl 1 rfl) ?_
  refine lv_sipush (v := 2047) hx hb dX7_store_5 (by decide) ?_
  refine lv_iand hx hb dX7_store_8 ?_
  refine lv_iload_n hx hb dX7_store_9 rfl (lv_at hl 2 rfl) ?_
  refine lv_sipush (v := 255) hx hb dX7_store_10 (by decide) ?_
  refine lv_iand hx hb dX7_store_13 ?_
  refine ma_mem hi hx hb hK hP hS (pk_andIn _ 11 rfl (by decide)) dX7_store_14 (fun H locs hP hS => ?_)
  exact g_vret hx hb hr hlocks hP hS dX7_store_15 hF
def f_X7_poke (u : MS) (p0 : Int32) (p1 : Int32) : MS :=
  if (f_X7_out u p0 2048) = 0 then
    if (f_X7_out u p1 256) = 0 then
      let r1 : Int32 × MS := f_X7_fails u 0 1
      if r1.1 = 0 then
        let u2 : MS := ms_mem r1.2 (upd (mq_mem r1.2) (p0).toNatClampNeg p1)
        u2
      else
        r1.2
    else
      let r3 : Int32 × MS := f_X7_fails u 1 1
      if r3.1 = 0 then
        let u4 : MS := ms_mem r3.2 (upd (mq_mem r3.2) (p0).toNatClampNeg p1)
        u4
      else
        r3.2
  else
    let r5 : Int32 × MS := f_X7_fails u 1 1
    if r5.1 = 0 then
      let u6 : MS := ms_mem r5.2 (upd (mq_mem r5.2) (p0).toNatClampNeg p1)
      u6
    else
      r5.2
def ok_X7_poke (u : MS) (p0 : Int32) (p1 : Int32) : Prop :=
  if (f_X7_out u p0 2048) = 0 then
    if (f_X7_out u p1 256) = 0 then
      let r1 : Int32 × MS := f_X7_fails u 0 1
      if r1.1 = 0 then
        vp_in p0 2048 ∧
        let u2 : MS := ms_mem r1.2 (upd (mq_mem r1.2) (p0).toNatClampNeg p1)
        True
      else
        True
    else
      let r3 : Int32 × MS := f_X7_fails u 1 1
      if r3.1 = 0 then
        vp_in p0 2048 ∧
        let u4 : MS := ms_mem r3.2 (upd (mq_mem r3.2) (p0).toNatClampNeg p1)
        True
      else
        True
  else
    let r5 : Int32 × MS := f_X7_fails u 1 1
    if r5.1 = 0 then
      vp_in p0 2048 ∧
      let u6 : MS := ms_mem r5.2 (upd (mq_mem r5.2) (p0).toNatClampNeg p1)
      True
    else
      True
set_option maxHeartbeats 4000000 in
set_option maxRecDepth 100000 in
theorem c_X7_poke (l : Launch) (dC : Nat → ClassId) (dI : Nat → Nat → Nat) (cI cZ : ClassId) (x : Nat → Nat) (hi : g_inj 7 x) (u : MS) (p0 : Int32) (p1 : Int32) (hok : ok_X7_poke u p0 p1) : g_Mv l yX7_poke (.code yX7_poke cX7_poke 3 none) { frames := 1, cells := 0, slots := 0, locals := 22 } (dC, dI) vwCl (tysW cI cZ) (wM x cI cZ) (g_bA 7 x) u [.ref (x 0), .int p0, .int p1] (f_X7_poke u p0 p1) := by
  refine Met.ofW (cc := cX7_poke) (maxL := 3) (ret := none) (by decide) rfl ?_
  intro p e s m args below meth c s₁ B hml hv
  obtain ⟨rfl, hP, hK⟩ := hv
  have hx := B.exec
  have hb := B.bytes
  have hr := B.returns
  have hts := atoms_spec (ws := .code yX7_poke cX7_poke 3 none :: gtbl) B.pre
  have hg : ∀ w ∈ gtbl, w.before _ s = true := fun w h => hts w (List.mem_cons_of_mem _ h)
  have hown : s.vm.findClass RX7 = some m.cls := findClass_of_methodNamed B.named
  have hlocks := B.notSynchronized
  have hS : va_S (g_bA 7 x) s.heap s.heap [] := va_S.rf
  have hl := lv_entry ([.ref (x 0), .int p0, .int p1]) (n := 3) (Nat.le_of_ble_eq_true rfl)
  rw [lg_entry_eq]
  generalize (lg_sl ([.ref (x 0), .int p0, .int p1]) ++ List.replicate (3 - (lg_sl ([.ref (x 0), .int p0, .int p1])).length) Slot.unset).toArray = ls at hl ⊢
  have hl : lv_has ls 3 [(0, .ref (x 0)), (1, .int p0), (2, .int p1)] := hl
  obtain ⟨F, hF⟩ : ∃ F, f_X7_poke u p0 p1 = F := ⟨_, rfl⟩
  rw [hF]
  refine lv_aload_n hx hb dX7_poke_0 rfl (lv_at hl 0 rfl) ?_
  refine lv_iload_n hx hb dX7_poke_1 rfl (lv_at hl 1 rfl) ?_
  refine lv_sipush (v := 2048) hx hb dX7_poke_2 (by decide) ?_
  refine g_Si hx hb hml hown hg (c_X7_out l dC dI cI cZ x hi _ _ _) cs_X7_33 rfl rfl ⟨Nat.le_of_ble_eq_true rfl, Nat.le_of_ble_eq_true rfl⟩ hK hP hS rfl hl.1 rfl (Nat.le_of_ble_eq_true rfl) dX7_poke_5 ⟨Nat.zero_le _, Nat.zero_le _⟩ (fun H locs hP hS => ?_)
  refine lv_if_ne (tgt := 21) hx hb dX7_poke_8 (by decide) (fun c1 => ?_) (fun c1 => ?_)
  · have hF := (if_neg c1).symm.trans hF
    have hok := Eq.mp (if_neg c1) hok
    refine lv_iconst (v := 1) hx hb dX7_poke_21 (by decide) ?_
    refine lv_goto (tgt := 26) hx hb dX7_poke_22 (by decide) ?_
    refine lv_iconst (v := 1) hx hb dX7_poke_26 (by decide) ?_
    refine g_Vi hx hb hml hown hg (c_X7_fails l dC dI cI cZ x hi _ _ _) cs_X7_37 rfl rfl ⟨Nat.le_of_ble_eq_true rfl, Nat.le_of_ble_eq_true rfl⟩ hK hP hS (q0 := 0) rfl rfl rfl hl.1 rfl (Nat.le_of_ble_eq_true rfl) dX7_poke_27 ⟨Nat.zero_le _, Nat.zero_le _⟩ (fun H locs hP hS => ?_)
    refine lv_if_eq (tgt := 34) hx hb dX7_poke_30 (by decide) (fun c7 => ?_) (fun c7 => ?_)
    · have hF := (if_pos c7).symm.trans hF
      have hok := Eq.mp (if_pos c7) hok
      refine lv_aload_n hx hb dX7_poke_34 rfl (lv_at hl 0 rfl) ?_
      refine ge_X7_memory hx hb hg hown kf_X7_7 hK hP dX7_poke_35 ?_
      refine lv_iload_n hx hb dX7_poke_38 rfl (lv_at hl 1 rfl) ?_
      refine lv_iload_n hx hb dX7_poke_39 rfl (lv_at hl 2 rfl) ?_
      obtain ⟨c8, hok⟩ := hok
      refine ma_mem hi hx hb hK hP hS c8 dX7_poke_40 (fun H locs hP hS => ?_)
      exact g_vret hx hb hr hlocks hP hS dX7_poke_41 hF
    · have hF := (if_neg c7).symm.trans hF
      have hok := Eq.mp (if_neg c7) hok
      exact g_vret hx hb hr hlocks hP hS dX7_poke_33 hF
  · have hF := (if_pos c1).symm.trans hF
    have hok := Eq.mp (if_pos c1) hok
    refine lv_iload_n hx hb dX7_poke_11 rfl (lv_at hl 2 rfl) ?_
    refine lv_sipush (v := 256) hx hb dX7_poke_12 (by decide) ?_
    refine g_Si hx hb hml hown hg (c_X7_out l dC dI cI cZ x hi _ _ _) cs_X7_33 rfl rfl ⟨Nat.le_of_ble_eq_true rfl, Nat.le_of_ble_eq_true rfl⟩ hK hP hS rfl hl.1 rfl (Nat.le_of_ble_eq_true rfl) dX7_poke_15 ⟨Nat.zero_le _, Nat.zero_le _⟩ (fun H locs hP hS => ?_)
    refine lv_if_eq (tgt := 25) hx hb dX7_poke_18 (by decide) (fun c2 => ?_) (fun c2 => ?_)
    · have hF := (if_pos c2).symm.trans hF
      have hok := Eq.mp (if_pos c2) hok
      refine lv_iconst (v := 0) hx hb dX7_poke_25 (by decide) ?_
      refine lv_iconst (v := 1) hx hb dX7_poke_26 (by decide) ?_
      refine g_Vi hx hb hml hown hg (c_X7_fails l dC dI cI cZ x hi _ _ _) cs_X7_37 rfl rfl ⟨Nat.le_of_ble_eq_true rfl, Nat.le_of_ble_eq_true rfl⟩ hK hP hS (q0 := 0) rfl rfl rfl hl.1 rfl (Nat.le_of_ble_eq_true rfl) dX7_poke_27 ⟨Nat.zero_le _, Nat.zero_le _⟩ (fun H locs hP hS => ?_)
      refine lv_if_eq (tgt := 34) hx hb dX7_poke_30 (by decide) (fun c3 => ?_) (fun c3 => ?_)
      · have hF := (if_pos c3).symm.trans hF
        have hok := Eq.mp (if_pos c3) hok
        refine lv_aload_n hx hb dX7_poke_34 rfl (lv_at hl 0 rfl) ?_
        refine ge_X7_memory hx hb hg hown kf_X7_7 hK hP dX7_poke_35 ?_
        refine lv_iload_n hx hb dX7_poke_38 rfl (lv_at hl 1 rfl) ?_
        refine lv_iload_n hx hb dX7_poke_39 rfl (lv_at hl 2 rfl) ?_
        obtain ⟨c4, hok⟩ := hok
        refine ma_mem hi hx hb hK hP hS c4 dX7_poke_40 (fun H locs hP hS => ?_)
        exact g_vret hx hb hr hlocks hP hS dX7_poke_41 hF
      · have hF := (if_neg c3).symm.trans hF
        have hok := Eq.mp (if_neg c3) hok
        exact g_vret hx hb hr hlocks hP hS dX7_poke_33 hF
    · have hF := (if_neg c2).symm.trans hF
      have hok := Eq.mp (if_neg c2) hok
      refine lv_iconst (v := 1) hx hb dX7_poke_21 (by decide) ?_
      refine lv_goto (tgt := 26) hx hb dX7_poke_22 (by decide) ?_
      refine lv_iconst (v := 1) hx hb dX7_poke_26 (by decide) ?_
      refine g_Vi hx hb hml hown hg (c_X7_fails l dC dI cI cZ x hi _ _ _) cs_X7_37 rfl rfl ⟨Nat.le_of_ble_eq_true rfl, Nat.le_of_ble_eq_true rfl⟩ hK hP hS (q0 := 0) rfl rfl rfl hl.1 rfl (Nat.le_of_ble_eq_true rfl) dX7_poke_27 ⟨Nat.zero_le _, Nat.zero_le _⟩ (fun H locs hP hS => ?_)
      refine lv_if_eq (tgt := 34) hx hb dX7_poke_30 (by decide) (fun c5 => ?_) (fun c5 => ?_)
      · have hF := (if_pos c5).symm.trans hF
        have hok := Eq.mp (if_pos c5) hok
        refine lv_aload_n hx hb dX7_poke_34 rfl (lv_at hl 0 rfl) ?_
        refine ge_X7_memory hx hb hg hown kf_X7_7 hK hP dX7_poke_35 ?_
        refine lv_iload_n hx hb dX7_poke_38 rfl (lv_at hl 1 rfl) ?_
        refine lv_iload_n hx hb dX7_poke_39 rfl (lv_at hl 2 rfl) ?_
        obtain ⟨c6, hok⟩ := hok
        refine ma_mem hi hx hb hK hP hS c6 dX7_poke_40 (fun H locs hP hS => ?_)
        exact g_vret hx hb hr hlocks hP hS dX7_poke_41 hF
      · have hF := (if_neg c5).symm.trans hF
        have hok := Eq.mp (if_neg c5) hok
        exact g_vret hx hb hr hlocks hP hS dX7_poke_33 hF
def f_X7_peek (u : MS) (p0 : Int32) : Int32 × MS :=
  let u1 : MS := ms_thrown u 0
  if (f_X7_out u1 p0 2048) = 0 then
    ((mq_mem u1 (p0).toNatClampNeg), u1)
  else
    ((-1), u1)
def ok_X7_peek (u : MS) (p0 : Int32) : Prop :=
  let u1 : MS := ms_thrown u 0
  if (f_X7_out u1 p0 2048) = 0 then
    vp_in p0 2048 ∧
    True
  else
    True
set_option maxHeartbeats 4000000 in
set_option maxRecDepth 100000 in
theorem c_X7_peek (l : Launch) (dC : Nat → ClassId) (dI : Nat → Nat → Nat) (cI cZ : ClassId) (x : Nat → Nat) (hi : g_inj 7 x) (u : MS) (p0 : Int32) (hok : ok_X7_peek u p0) : g_Mi l yX7_peek (.code yX7_peek cX7_peek 2 (some .int)) { frames := 1, cells := 0, slots := 0, locals := 21 } (dC, dI) vwCl (tysW cI cZ) (wM x cI cZ) (g_bA 7 x) u [.ref (x 0), .int p0] (f_X7_peek u p0).1 (f_X7_peek u p0).2 := by
  refine Met.ofW (cc := cX7_peek) (maxL := 2) (ret := (some .int)) (by decide) rfl ?_
  intro p e s m args below meth c s₁ B hml hv
  obtain ⟨rfl, hP, hK⟩ := hv
  have hx := B.exec
  have hb := B.bytes
  have hr := B.returns
  have hts := atoms_spec (ws := .code yX7_peek cX7_peek 2 (some .int) :: gtbl) B.pre
  have hg : ∀ w ∈ gtbl, w.before _ s = true := fun w h => hts w (List.mem_cons_of_mem _ h)
  have hown : s.vm.findClass RX7 = some m.cls := findClass_of_methodNamed B.named
  have hlocks := B.notSynchronized
  have hS : va_S (g_bA 7 x) s.heap s.heap [] := va_S.rf
  have hl := lv_entry ([.ref (x 0), .int p0]) (n := 2) (Nat.le_of_ble_eq_true rfl)
  rw [lg_entry_eq]
  generalize (lg_sl ([.ref (x 0), .int p0]) ++ List.replicate (2 - (lg_sl ([.ref (x 0), .int p0])).length) Slot.unset).toArray = ls at hl ⊢
  have hl : lv_has ls 2 [(0, .ref (x 0)), (1, .int p0)] := hl
  obtain ⟨F, hF⟩ : ∃ F, f_X7_peek u p0 = F := ⟨_, rfl⟩
  rw [hF]
  refine lv_aload_n hx hb dX7_peek_0 rfl (lv_at hl 0 rfl) ?_
  refine lv_iconst (v := 0) hx hb dX7_peek_1 (by decide) ?_
  refine pu_X7_thrown hi hx hb hg hown kf_X7_29 hK hP hS dX7_peek_2 (fun H locs hP hS => ?_)
  refine lv_iload_n hx hb dX7_peek_5 rfl (lv_at hl 1 rfl) ?_
  refine lv_sipush (v := 2048) hx hb dX7_peek_6 (by decide) ?_
  refine g_Si hx hb hml hown hg (c_X7_out l dC dI cI cZ x hi _ _ _) cs_X7_33 rfl rfl ⟨Nat.le_of_ble_eq_true rfl, Nat.le_of_ble_eq_true rfl⟩ hK hP hS rfl hl.1 rfl (Nat.le_of_ble_eq_true rfl) dX7_peek_9 ⟨Nat.zero_le _, Nat.zero_le _⟩ (fun H locs hP hS => ?_)
  refine lv_if_eq (tgt := 19) hx hb dX7_peek_12 (by decide) (fun c1 => ?_) (fun c1 => ?_)
  · have hF := (if_pos c1).symm.trans hF
    have hok := Eq.mp (if_pos c1) hok
    refine lv_aload_n hx hb dX7_peek_19 rfl (lv_at hl 0 rfl) ?_
    refine ge_X7_memory hx hb hg hown kf_X7_7 hK hP dX7_peek_20 ?_
    refine lv_iload_n hx hb dX7_peek_23 rfl (lv_at hl 1 rfl) ?_
    obtain ⟨c2, hok⟩ := hok
    refine ml_mem hx hb hK hP c2 dX7_peek_24 ?_
    have hF : (_, _) = F := hF
    exact g_iret hx hb hr hlocks hP hS dX7_peek_25 (g_p1 hF) (g_p2 hF)
  · have hF := (if_neg c1).symm.trans hF
    have hok := Eq.mp (if_neg c1) hok
    refine lv_iconst (v := (-1)) hx hb dX7_peek_15 (by decide) ?_
    refine lv_goto (tgt := 25) hx hb dX7_peek_16 (by decide) ?_
    have hF : (_, _) = F := hF
    exact g_iret hx hb hr hlocks hP hS dX7_peek_25 (g_p1 hF) (g_p2 hF)
def f_X7_cpu (u : MS) (p0 : Int32) : Int32 × MS :=
  let r1 : Int32 × MS := f_X7_fails u (f_X7_out u p0 24) 1
  if r1.1 = 0 then
    ((mq_s r1.2 (p0).toNatClampNeg), r1.2)
  else
    (0, r1.2)
def ok_X7_cpu (u : MS) (p0 : Int32) : Prop :=
  let r1 : Int32 × MS := f_X7_fails u (f_X7_out u p0 24) 1
  if r1.1 = 0 then
    vp_in p0 24 ∧
    True
  else
    True
set_option maxHeartbeats 4000000 in
set_option maxRecDepth 100000 in
theorem c_X7_cpu (l : Launch) (dC : Nat → ClassId) (dI : Nat → Nat → Nat) (cI cZ : ClassId) (x : Nat → Nat) (hi : g_inj 7 x) (u : MS) (p0 : Int32) (hok : ok_X7_cpu u p0) : g_Mi l yX7_cpu (.code yX7_cpu cX7_cpu 2 (some .int)) { frames := 1, cells := 0, slots := 0, locals := 22 } (dC, dI) vwCl (tysW cI cZ) (wM x cI cZ) (g_bA 7 x) u [.ref (x 0), .int p0] (f_X7_cpu u p0).1 (f_X7_cpu u p0).2 := by
  refine Met.ofW (cc := cX7_cpu) (maxL := 2) (ret := (some .int)) (by decide) rfl ?_
  intro p e s m args below meth c s₁ B hml hv
  obtain ⟨rfl, hP, hK⟩ := hv
  have hx := B.exec
  have hb := B.bytes
  have hr := B.returns
  have hts := atoms_spec (ws := .code yX7_cpu cX7_cpu 2 (some .int) :: gtbl) B.pre
  have hg : ∀ w ∈ gtbl, w.before _ s = true := fun w h => hts w (List.mem_cons_of_mem _ h)
  have hown : s.vm.findClass RX7 = some m.cls := findClass_of_methodNamed B.named
  have hlocks := B.notSynchronized
  have hS : va_S (g_bA 7 x) s.heap s.heap [] := va_S.rf
  have hl := lv_entry ([.ref (x 0), .int p0]) (n := 2) (Nat.le_of_ble_eq_true rfl)
  rw [lg_entry_eq]
  generalize (lg_sl ([.ref (x 0), .int p0]) ++ List.replicate (2 - (lg_sl ([.ref (x 0), .int p0])).length) Slot.unset).toArray = ls at hl ⊢
  have hl : lv_has ls 2 [(0, .ref (x 0)), (1, .int p0)] := hl
  obtain ⟨F, hF⟩ : ∃ F, f_X7_cpu u p0 = F := ⟨_, rfl⟩
  rw [hF]
  refine lv_aload_n hx hb dX7_cpu_0 rfl (lv_at hl 0 rfl) ?_
  refine lv_iload_n hx hb dX7_cpu_1 rfl (lv_at hl 1 rfl) ?_
  refine lv_bipush (v := 24) hx hb dX7_cpu_2 (by decide) ?_
  refine g_Si hx hb hml hown hg (c_X7_out l dC dI cI cZ x hi _ _ _) cs_X7_33 rfl rfl ⟨Nat.le_of_ble_eq_true rfl, Nat.le_of_ble_eq_true rfl⟩ hK hP hS rfl hl.1 rfl (Nat.le_of_ble_eq_true rfl) dX7_cpu_4 ⟨Nat.zero_le _, Nat.zero_le _⟩ (fun H locs hP hS => ?_)
  refine lv_iconst (v := 1) hx hb dX7_cpu_7 (by decide) ?_
  refine g_Vi hx hb hml hown hg (c_X7_fails l dC dI cI cZ x hi _ _ _) cs_X7_37 rfl rfl ⟨Nat.le_of_ble_eq_true rfl, Nat.le_of_ble_eq_true rfl⟩ hK hP hS (q0 := 0) rfl rfl rfl hl.1 rfl (Nat.le_of_ble_eq_true rfl) dX7_cpu_8 ⟨Nat.zero_le _, Nat.zero_le _⟩ (fun H locs hP hS => ?_)
  refine lv_if_eq (tgt := 18) hx hb dX7_cpu_11 (by decide) (fun c1 => ?_) (fun c1 => ?_)
  · have hF := (if_pos c1).symm.trans hF
    have hok := Eq.mp (if_pos c1) hok
    refine lv_aload_n hx hb dX7_cpu_18 rfl (lv_at hl 0 rfl) ?_
    refine ge_X7_s hx hb hg hown kf_X7_13 hK hP dX7_cpu_19 ?_
    refine lv_iload_n hx hb dX7_cpu_22 rfl (lv_at hl 1 rfl) ?_
    obtain ⟨c2, hok⟩ := hok
    refine ml_s hx hb hK hP c2 dX7_cpu_23 ?_
    have hF : (_, _) = F := hF
    exact g_iret hx hb hr hlocks hP hS dX7_cpu_24 (g_p1 hF) (g_p2 hF)
  · have hF := (if_neg c1).symm.trans hF
    have hok := Eq.mp (if_neg c1) hok
    refine lv_iconst (v := 0) hx hb dX7_cpu_14 (by decide) ?_
    refine lv_goto (tgt := 24) hx hb dX7_cpu_15 (by decide) ?_
    have hF : (_, _) = F := hF
    exact g_iret hx hb hr hlocks hP hS dX7_cpu_24 (g_p1 hF) (g_p2 hF)
def f_X7_set (u : MS) (p0 : Int32) (p1 : Int32) : MS :=
  if 16 ≤ p0 then
    if p0 = 16 then
      if (f_X7_out u p0 23) = 0 then
        if (f_X7_out u p1 256) = 0 then
          let r1 : Int32 × MS := f_X7_fails u 0 1
          if r1.1 = 0 then
            let u2 : MS := ms_s r1.2 (upd (mq_s r1.2) (p0).toNatClampNeg p1)
            u2
          else
            r1.2
        else
          let r3 : Int32 × MS := f_X7_fails u 1 1
          if r3.1 = 0 then
            let u4 : MS := ms_s r3.2 (upd (mq_s r3.2) (p0).toNatClampNeg p1)
            u4
          else
            r3.2
      else
        let r5 : Int32 × MS := f_X7_fails u 1 1
        if r5.1 = 0 then
          let u6 : MS := ms_s r5.2 (upd (mq_s r5.2) (p0).toNatClampNeg p1)
          u6
        else
          r5.2
    else
      if p0 = 20 then
        if (f_X7_out u p0 23) = 0 then
          if (f_X7_out u p1 256) = 0 then
            let r7 : Int32 × MS := f_X7_fails u 0 1
            if r7.1 = 0 then
              let u8 : MS := ms_s r7.2 (upd (mq_s r7.2) (p0).toNatClampNeg p1)
              u8
            else
              r7.2
          else
            let r9 : Int32 × MS := f_X7_fails u 1 1
            if r9.1 = 0 then
              let u10 : MS := ms_s r9.2 (upd (mq_s r9.2) (p0).toNatClampNeg p1)
              u10
            else
              r9.2
        else
          let r11 : Int32 × MS := f_X7_fails u 1 1
          if r11.1 = 0 then
            let u12 : MS := ms_s r11.2 (upd (mq_s r11.2) (p0).toNatClampNeg p1)
            u12
          else
            r11.2
      else
        if p0 = 18 then
          if (f_X7_out u p0 23) = 0 then
            if (f_X7_out u p1 16) = 0 then
              let r13 : Int32 × MS := f_X7_fails u 0 1
              if r13.1 = 0 then
                let u14 : MS := ms_s r13.2 (upd (mq_s r13.2) (p0).toNatClampNeg p1)
                u14
              else
                r13.2
            else
              let r15 : Int32 × MS := f_X7_fails u 1 1
              if r15.1 = 0 then
                let u16 : MS := ms_s r15.2 (upd (mq_s r15.2) (p0).toNatClampNeg p1)
                u16
              else
                r15.2
          else
            let r17 : Int32 × MS := f_X7_fails u 1 1
            if r17.1 = 0 then
              let u18 : MS := ms_s r17.2 (upd (mq_s r17.2) (p0).toNatClampNeg p1)
              u18
            else
              r17.2
        else
          if p0 = 19 then
            if (f_X7_out u p0 23) = 0 then
              if (f_X7_out u p1 16) = 0 then
                let r19 : Int32 × MS := f_X7_fails u 0 1
                if r19.1 = 0 then
                  let u20 : MS := ms_s r19.2 (upd (mq_s r19.2) (p0).toNatClampNeg p1)
                  u20
                else
                  r19.2
              else
                let r21 : Int32 × MS := f_X7_fails u 1 1
                if r21.1 = 0 then
                  let u22 : MS := ms_s r21.2 (upd (mq_s r21.2) (p0).toNatClampNeg p1)
                  u22
                else
                  r21.2
            else
              let r23 : Int32 × MS := f_X7_fails u 1 1
              if r23.1 = 0 then
                let u24 : MS := ms_s r23.2 (upd (mq_s r23.2) (p0).toNatClampNeg p1)
                u24
              else
                r23.2
          else
            if (f_X7_out u p0 23) = 0 then
              if (f_X7_out u p1 2) = 0 then
                let r25 : Int32 × MS := f_X7_fails u 0 1
                if r25.1 = 0 then
                  let u26 : MS := ms_s r25.2 (upd (mq_s r25.2) (p0).toNatClampNeg p1)
                  u26
                else
                  r25.2
              else
                let r27 : Int32 × MS := f_X7_fails u 1 1
                if r27.1 = 0 then
                  let u28 : MS := ms_s r27.2 (upd (mq_s r27.2) (p0).toNatClampNeg p1)
                  u28
                else
                  r27.2
            else
              let r29 : Int32 × MS := f_X7_fails u 1 1
              if r29.1 = 0 then
                let u30 : MS := ms_s r29.2 (upd (mq_s r29.2) (p0).toNatClampNeg p1)
                u30
              else
                r29.2
  else
    if (f_X7_out u p0 23) = 0 then
      if (f_X7_out u p1 65536) = 0 then
        let r31 : Int32 × MS := f_X7_fails u 0 1
        if r31.1 = 0 then
          let u32 : MS := ms_s r31.2 (upd (mq_s r31.2) (p0).toNatClampNeg p1)
          u32
        else
          r31.2
      else
        let r33 : Int32 × MS := f_X7_fails u 1 1
        if r33.1 = 0 then
          let u34 : MS := ms_s r33.2 (upd (mq_s r33.2) (p0).toNatClampNeg p1)
          u34
        else
          r33.2
    else
      let r35 : Int32 × MS := f_X7_fails u 1 1
      if r35.1 = 0 then
        let u36 : MS := ms_s r35.2 (upd (mq_s r35.2) (p0).toNatClampNeg p1)
        u36
      else
        r35.2
def ok_X7_set (u : MS) (p0 : Int32) (p1 : Int32) : Prop :=
  if 16 ≤ p0 then
    if p0 = 16 then
      if (f_X7_out u p0 23) = 0 then
        if (f_X7_out u p1 256) = 0 then
          let r1 : Int32 × MS := f_X7_fails u 0 1
          if r1.1 = 0 then
            vp_in p0 24 ∧
            let u2 : MS := ms_s r1.2 (upd (mq_s r1.2) (p0).toNatClampNeg p1)
            True
          else
            True
        else
          let r3 : Int32 × MS := f_X7_fails u 1 1
          if r3.1 = 0 then
            vp_in p0 24 ∧
            let u4 : MS := ms_s r3.2 (upd (mq_s r3.2) (p0).toNatClampNeg p1)
            True
          else
            True
      else
        let r5 : Int32 × MS := f_X7_fails u 1 1
        if r5.1 = 0 then
          vp_in p0 24 ∧
          let u6 : MS := ms_s r5.2 (upd (mq_s r5.2) (p0).toNatClampNeg p1)
          True
        else
          True
    else
      if p0 = 20 then
        if (f_X7_out u p0 23) = 0 then
          if (f_X7_out u p1 256) = 0 then
            let r7 : Int32 × MS := f_X7_fails u 0 1
            if r7.1 = 0 then
              vp_in p0 24 ∧
              let u8 : MS := ms_s r7.2 (upd (mq_s r7.2) (p0).toNatClampNeg p1)
              True
            else
              True
          else
            let r9 : Int32 × MS := f_X7_fails u 1 1
            if r9.1 = 0 then
              vp_in p0 24 ∧
              let u10 : MS := ms_s r9.2 (upd (mq_s r9.2) (p0).toNatClampNeg p1)
              True
            else
              True
        else
          let r11 : Int32 × MS := f_X7_fails u 1 1
          if r11.1 = 0 then
            vp_in p0 24 ∧
            let u12 : MS := ms_s r11.2 (upd (mq_s r11.2) (p0).toNatClampNeg p1)
            True
          else
            True
      else
        if p0 = 18 then
          if (f_X7_out u p0 23) = 0 then
            if (f_X7_out u p1 16) = 0 then
              let r13 : Int32 × MS := f_X7_fails u 0 1
              if r13.1 = 0 then
                vp_in p0 24 ∧
                let u14 : MS := ms_s r13.2 (upd (mq_s r13.2) (p0).toNatClampNeg p1)
                True
              else
                True
            else
              let r15 : Int32 × MS := f_X7_fails u 1 1
              if r15.1 = 0 then
                vp_in p0 24 ∧
                let u16 : MS := ms_s r15.2 (upd (mq_s r15.2) (p0).toNatClampNeg p1)
                True
              else
                True
          else
            let r17 : Int32 × MS := f_X7_fails u 1 1
            if r17.1 = 0 then
              vp_in p0 24 ∧
              let u18 : MS := ms_s r17.2 (upd (mq_s r17.2) (p0).toNatClampNeg p1)
              True
            else
              True
        else
          if p0 = 19 then
            if (f_X7_out u p0 23) = 0 then
              if (f_X7_out u p1 16) = 0 then
                let r19 : Int32 × MS := f_X7_fails u 0 1
                if r19.1 = 0 then
                  vp_in p0 24 ∧
                  let u20 : MS := ms_s r19.2 (upd (mq_s r19.2) (p0).toNatClampNeg p1)
                  True
                else
                  True
              else
                let r21 : Int32 × MS := f_X7_fails u 1 1
                if r21.1 = 0 then
                  vp_in p0 24 ∧
                  let u22 : MS := ms_s r21.2 (upd (mq_s r21.2) (p0).toNatClampNeg p1)
                  True
                else
                  True
            else
              let r23 : Int32 × MS := f_X7_fails u 1 1
              if r23.1 = 0 then
                vp_in p0 24 ∧
                let u24 : MS := ms_s r23.2 (upd (mq_s r23.2) (p0).toNatClampNeg p1)
                True
              else
                True
          else
            if (f_X7_out u p0 23) = 0 then
              if (f_X7_out u p1 2) = 0 then
                let r25 : Int32 × MS := f_X7_fails u 0 1
                if r25.1 = 0 then
                  vp_in p0 24 ∧
                  let u26 : MS := ms_s r25.2 (upd (mq_s r25.2) (p0).toNatClampNeg p1)
                  True
                else
                  True
              else
                let r27 : Int32 × MS := f_X7_fails u 1 1
                if r27.1 = 0 then
                  vp_in p0 24 ∧
                  let u28 : MS := ms_s r27.2 (upd (mq_s r27.2) (p0).toNatClampNeg p1)
                  True
                else
                  True
            else
              let r29 : Int32 × MS := f_X7_fails u 1 1
              if r29.1 = 0 then
                vp_in p0 24 ∧
                let u30 : MS := ms_s r29.2 (upd (mq_s r29.2) (p0).toNatClampNeg p1)
                True
              else
                True
  else
    if (f_X7_out u p0 23) = 0 then
      if (f_X7_out u p1 65536) = 0 then
        let r31 : Int32 × MS := f_X7_fails u 0 1
        if r31.1 = 0 then
          vp_in p0 24 ∧
          let u32 : MS := ms_s r31.2 (upd (mq_s r31.2) (p0).toNatClampNeg p1)
          True
        else
          True
      else
        let r33 : Int32 × MS := f_X7_fails u 1 1
        if r33.1 = 0 then
          vp_in p0 24 ∧
          let u34 : MS := ms_s r33.2 (upd (mq_s r33.2) (p0).toNatClampNeg p1)
          True
        else
          True
    else
      let r35 : Int32 × MS := f_X7_fails u 1 1
      if r35.1 = 0 then
        vp_in p0 24 ∧
        let u36 : MS := ms_s r35.2 (upd (mq_s r35.2) (p0).toNatClampNeg p1)
        True
      else
        True
set_option maxHeartbeats 4000000 in
set_option maxRecDepth 100000 in
theorem c_X7_set (l : Launch) (dC : Nat → ClassId) (dI : Nat → Nat → Nat) (cI cZ : ClassId) (x : Nat → Nat) (hi : g_inj 7 x) (u : MS) (p0 : Int32) (p1 : Int32) (hok : ok_X7_set u p0 p1) : g_Mv l yX7_set (.code yX7_set cX7_set 4 none) { frames := 1, cells := 0, slots := 0, locals := 22 } (dC, dI) vwCl (tysW cI cZ) (wM x cI cZ) (g_bA 7 x) u [.ref (x 0), .int p0, .int p1] (f_X7_set u p0 p1) := by
  refine Met.ofW (cc := cX7_set) (maxL := 4) (ret := none) (by decide) rfl ?_
  intro p e s m args below meth c s₁ B hml hv
  obtain ⟨rfl, hP, hK⟩ := hv
  have hx := B.exec
  have hb := B.bytes
  have hr := B.returns
  have hts := atoms_spec (ws := .code yX7_set cX7_set 4 none :: gtbl) B.pre
  have hg : ∀ w ∈ gtbl, w.before _ s = true := fun w h => hts w (List.mem_cons_of_mem _ h)
  have hown : s.vm.findClass RX7 = some m.cls := findClass_of_methodNamed B.named
  have hlocks := B.notSynchronized
  have hS : va_S (g_bA 7 x) s.heap s.heap [] := va_S.rf
  have hl := lv_entry ([.ref (x 0), .int p0, .int p1]) (n := 4) (Nat.le_of_ble_eq_true rfl)
  rw [lg_entry_eq]
  generalize (lg_sl ([.ref (x 0), .int p0, .int p1]) ++ List.replicate (4 - (lg_sl ([.ref (x 0), .int p0, .int p1])).length) Slot.unset).toArray = ls at hl ⊢
  have hl : lv_has ls 4 [(0, .ref (x 0)), (1, .int p0), (2, .int p1)] := hl
  obtain ⟨F, hF⟩ : ∃ F, f_X7_set u p0 p1 = F := ⟨_, rfl⟩
  rw [hF]
  refine lv_iload_n hx hb dX7_set_0 rfl (lv_at hl 1 rfl) ?_
  refine lv_bipush (v := 16) hx hb dX7_set_1 (by decide) ?_
  refine lv_icmp_ge (tgt := 11) hx hb dX7_set_3 (by decide) (fun c1 => ?_) (fun c1 => ?_)
  · have hF := (if_pos c1).symm.trans hF
    have hok := Eq.mp (if_pos c1) hok
    refine lv_iload_n hx hb dX7_set_11 rfl (lv_at hl 1 rfl) ?_
    refine lv_bipush (v := 16) hx hb dX7_set_12 (by decide) ?_
    refine lv_icmp_eq (tgt := 23) hx hb dX7_set_14 (by decide) (fun c2 => ?_) (fun c2 => ?_)
    · have hF := (if_pos c2).symm.trans hF
      have hok := Eq.mp (if_pos c2) hok
      refine lv_sipush (v := 256) hx hb dX7_set_23 (by decide) ?_
      refine lv_goto (tgt := 47) hx hb dX7_set_26 (by decide) ?_
      refine lv_istore_n hx hb dX7_set_47 rfl hl (by decide) rfl (fun ls hl => ?_)
      have hl : lv_has ls 4 [(3, _), (0, _), (1, _), (2, _)] := hl
      refine lv_aload_n hx hb dX7_set_48 rfl (lv_at hl 1 rfl) ?_
      refine lv_iload_n hx hb dX7_set_49 rfl (lv_at hl 2 rfl) ?_
      refine lv_bipush (v := 23) hx hb dX7_set_50 (by decide) ?_
      refine g_Si hx hb hml hown hg (c_X7_out l dC dI cI cZ x hi _ _ _) cs_X7_33 rfl rfl ⟨Nat.le_of_ble_eq_true rfl, Nat.le_of_ble_eq_true rfl⟩ hK hP hS rfl hl.1 rfl (Nat.le_of_ble_eq_true rfl) dX7_set_52 ⟨Nat.zero_le _, Nat.zero_le _⟩ (fun H locs hP hS => ?_)
      refine lv_if_ne (tgt := 66) hx hb dX7_set_55 (by decide) (fun c3 => ?_) (fun c3 => ?_)
      · have hF := (if_neg c3).symm.trans hF
        have hok := Eq.mp (if_neg c3) hok
        refine lv_iconst (v := 1) hx hb dX7_set_66 (by decide) ?_
        refine lv_goto (tgt := 71) hx hb dX7_set_67 (by decide) ?_
        refine lv_iconst (v := 1) hx hb dX7_set_71 (by decide) ?_
        refine g_Vi hx hb hml hown hg (c_X7_fails l dC dI cI cZ x hi _ _ _) cs_X7_37 rfl rfl ⟨Nat.le_of_ble_eq_true rfl, Nat.le_of_ble_eq_true rfl⟩ hK hP hS (q0 := 0) rfl rfl rfl hl.1 rfl (Nat.le_of_ble_eq_true rfl) dX7_set_72 ⟨Nat.zero_le _, Nat.zero_le _⟩ (fun H locs hP hS => ?_)
        refine lv_if_eq (tgt := 79) hx hb dX7_set_75 (by decide) (fun c9 => ?_) (fun c9 => ?_)
        · have hF := (if_pos c9).symm.trans hF
          have hok := Eq.mp (if_pos c9) hok
          refine lv_aload_n hx hb dX7_set_79 rfl (lv_at hl 1 rfl) ?_
          refine ge_X7_s hx hb hg hown kf_X7_13 hK hP dX7_set_80 ?_
          refine lv_iload_n hx hb dX7_set_83 rfl (lv_at hl 2 rfl) ?_
          refine lv_iload_n hx hb dX7_set_84 rfl (lv_at hl 3 rfl) ?_
          obtain ⟨c10, hok⟩ := hok
          refine ma_s hi hx hb hK hP hS c10 dX7_set_85 (fun H locs hP hS => ?_)
          exact g_vret hx hb hr hlocks hP hS dX7_set_86 hF
        · have hF := (if_neg c9).symm.trans hF
          have hok := Eq.mp (if_neg c9) hok
          exact g_vret hx hb hr hlocks hP hS dX7_set_78 hF
      · have hF := (if_pos c3).symm.trans hF
        have hok := Eq.mp (if_pos c3) hok
        refine lv_iload_n hx hb dX7_set_58 rfl (lv_at hl 3 rfl) ?_
        refine lv_iload_n hx hb dX7_set_59 rfl (lv_at hl 0 rfl) ?_
        refine g_Si hx hb hml hown hg (c_X7_out l dC dI cI cZ x hi _ _ _) cs_X7_33 rfl rfl ⟨Nat.le_of_ble_eq_true rfl, Nat.le_of_ble_eq_true rfl⟩ hK hP hS rfl hl.1 rfl (Nat.le_of_ble_eq_true rfl) dX7_set_60 ⟨Nat.zero_le _, Nat.zero_le _⟩ (fun H locs hP hS => ?_)
        refine lv_if_eq (tgt := 70) hx hb dX7_set_63 (by decide) (fun c4 => ?_) (fun c4 => ?_)
        · have hF := (if_pos c4).symm.trans hF
          have hok := Eq.mp (if_pos c4) hok
          refine lv_iconst (v := 0) hx hb dX7_set_70 (by decide) ?_
          refine lv_iconst (v := 1) hx hb dX7_set_71 (by decide) ?_
          refine g_Vi hx hb hml hown hg (c_X7_fails l dC dI cI cZ x hi _ _ _) cs_X7_37 rfl rfl ⟨Nat.le_of_ble_eq_true rfl, Nat.le_of_ble_eq_true rfl⟩ hK hP hS (q0 := 0) rfl rfl rfl hl.1 rfl (Nat.le_of_ble_eq_true rfl) dX7_set_72 ⟨Nat.zero_le _, Nat.zero_le _⟩ (fun H locs hP hS => ?_)
          refine lv_if_eq (tgt := 79) hx hb dX7_set_75 (by decide) (fun c5 => ?_) (fun c5 => ?_)
          · have hF := (if_pos c5).symm.trans hF
            have hok := Eq.mp (if_pos c5) hok
            refine lv_aload_n hx hb dX7_set_79 rfl (lv_at hl 1 rfl) ?_
            refine ge_X7_s hx hb hg hown kf_X7_13 hK hP dX7_set_80 ?_
            refine lv_iload_n hx hb dX7_set_83 rfl (lv_at hl 2 rfl) ?_
            refine lv_iload_n hx hb dX7_set_84 rfl (lv_at hl 3 rfl) ?_
            obtain ⟨c6, hok⟩ := hok
            refine ma_s hi hx hb hK hP hS c6 dX7_set_85 (fun H locs hP hS => ?_)
            exact g_vret hx hb hr hlocks hP hS dX7_set_86 hF
          · have hF := (if_neg c5).symm.trans hF
            have hok := Eq.mp (if_neg c5) hok
            exact g_vret hx hb hr hlocks hP hS dX7_set_78 hF
        · have hF := (if_neg c4).symm.trans hF
          have hok := Eq.mp (if_neg c4) hok
          refine lv_iconst (v := 1) hx hb dX7_set_66 (by decide) ?_
          refine lv_goto (tgt := 71) hx hb dX7_set_67 (by decide) ?_
          refine lv_iconst (v := 1) hx hb dX7_set_71 (by decide) ?_
          refine g_Vi hx hb hml hown hg (c_X7_fails l dC dI cI cZ x hi _ _ _) cs_X7_37 rfl rfl ⟨Nat.le_of_ble_eq_true rfl, Nat.le_of_ble_eq_true rfl⟩ hK hP hS (q0 := 0) rfl rfl rfl hl.1 rfl (Nat.le_of_ble_eq_true rfl) dX7_set_72 ⟨Nat.zero_le _, Nat.zero_le _⟩ (fun H locs hP hS => ?_)
          refine lv_if_eq (tgt := 79) hx hb dX7_set_75 (by decide) (fun c7 => ?_) (fun c7 => ?_)
          · have hF := (if_pos c7).symm.trans hF
            have hok := Eq.mp (if_pos c7) hok
            refine lv_aload_n hx hb dX7_set_79 rfl (lv_at hl 1 rfl) ?_
            refine ge_X7_s hx hb hg hown kf_X7_13 hK hP dX7_set_80 ?_
            refine lv_iload_n hx hb dX7_set_83 rfl (lv_at hl 2 rfl) ?_
            refine lv_iload_n hx hb dX7_set_84 rfl (lv_at hl 3 rfl) ?_
            obtain ⟨c8, hok⟩ := hok
            refine ma_s hi hx hb hK hP hS c8 dX7_set_85 (fun H locs hP hS => ?_)
            exact g_vret hx hb hr hlocks hP hS dX7_set_86 hF
          · have hF := (if_neg c7).symm.trans hF
            have hok := Eq.mp (if_neg c7) hok
            exact g_vret hx hb hr hlocks hP hS dX7_set_78 hF
    · have hF := (if_neg c2).symm.trans hF
      have hok := Eq.mp (if_neg c2) hok
      refine lv_iload_n hx hb dX7_set_17 rfl (lv_at hl 1 rfl) ?_
      refine lv_bipush (v := 20) hx hb dX7_set_18 (by decide) ?_
      refine lv_icmp_ne (tgt := 29) hx hb dX7_set_20 (by decide) (fun c11 => ?_) (fun c11 => ?_)
      · have hF := (if_neg c11).symm.trans hF
        have hok := Eq.mp (if_neg c11) hok
        refine lv_iload_n hx hb dX7_set_29 rfl (lv_at hl 1 rfl) ?_
        refine lv_bipush (v := 18) hx hb dX7_set_30 (by decide) ?_
        refine lv_icmp_eq (tgt := 41) hx hb dX7_set_32 (by decide) (fun c20 => ?_) (fun c20 => ?_)
        · have hF := (if_pos c20).symm.trans hF
          have hok := Eq.mp (if_pos c20) hok
          refine lv_bipush (v := 16) hx hb dX7_set_41 (by decide) ?_
          refine lv_goto (tgt := 47) hx hb dX7_set_43 (by decide) ?_
          refine lv_istore_n hx hb dX7_set_47 rfl hl (by decide) rfl (fun ls hl => ?_)
          have hl : lv_has ls 4 [(3, _), (0, _), (1, _), (2, _)] := hl
          refine lv_aload_n hx hb dX7_set_48 rfl (lv_at hl 1 rfl) ?_
          refine lv_iload_n hx hb dX7_set_49 rfl (lv_at hl 2 rfl) ?_
          refine lv_bipush (v := 23) hx hb dX7_set_50 (by decide) ?_
          refine g_Si hx hb hml hown hg (c_X7_out l dC dI cI cZ x hi _ _ _) cs_X7_33 rfl rfl ⟨Nat.le_of_ble_eq_true rfl, Nat.le_of_ble_eq_true rfl⟩ hK hP hS rfl hl.1 rfl (Nat.le_of_ble_eq_true rfl) dX7_set_52 ⟨Nat.zero_le _, Nat.zero_le _⟩ (fun H locs hP hS => ?_)
          refine lv_if_ne (tgt := 66) hx hb dX7_set_55 (by decide) (fun c21 => ?_) (fun c21 => ?_)
          · have hF := (if_neg c21).symm.trans hF
            have hok := Eq.mp (if_neg c21) hok
            refine lv_iconst (v := 1) hx hb dX7_set_66 (by decide) ?_
            refine lv_goto (tgt := 71) hx hb dX7_set_67 (by decide) ?_
            refine lv_iconst (v := 1) hx hb dX7_set_71 (by decide) ?_
            refine g_Vi hx hb hml hown hg (c_X7_fails l dC dI cI cZ x hi _ _ _) cs_X7_37 rfl rfl ⟨Nat.le_of_ble_eq_true rfl, Nat.le_of_ble_eq_true rfl⟩ hK hP hS (q0 := 0) rfl rfl rfl hl.1 rfl (Nat.le_of_ble_eq_true rfl) dX7_set_72 ⟨Nat.zero_le _, Nat.zero_le _⟩ (fun H locs hP hS => ?_)
            refine lv_if_eq (tgt := 79) hx hb dX7_set_75 (by decide) (fun c27 => ?_) (fun c27 => ?_)
            · have hF := (if_pos c27).symm.trans hF
              have hok := Eq.mp (if_pos c27) hok
              refine lv_aload_n hx hb dX7_set_79 rfl (lv_at hl 1 rfl) ?_
              refine ge_X7_s hx hb hg hown kf_X7_13 hK hP dX7_set_80 ?_
              refine lv_iload_n hx hb dX7_set_83 rfl (lv_at hl 2 rfl) ?_
              refine lv_iload_n hx hb dX7_set_84 rfl (lv_at hl 3 rfl) ?_
              obtain ⟨c28, hok⟩ := hok
              refine ma_s hi hx hb hK hP hS c28 dX7_set_85 (fun H locs hP hS => ?_)
              exact g_vret hx hb hr hlocks hP hS dX7_set_86 hF
            · have hF := (if_neg c27).symm.trans hF
              have hok := Eq.mp (if_neg c27) hok
              exact g_vret hx hb hr hlocks hP hS dX7_set_78 hF
          · have hF := (if_pos c21).symm.trans hF
            have hok := Eq.mp (if_pos c21) hok
            refine lv_iload_n hx hb dX7_set_58 rfl (lv_at hl 3 rfl) ?_
            refine lv_iload_n hx hb dX7_set_59 rfl (lv_at hl 0 rfl) ?_
            refine g_Si hx hb hml hown hg (c_X7_out l dC dI cI cZ x hi _ _ _) cs_X7_33 rfl rfl ⟨Nat.le_of_ble_eq_true rfl, Nat.le_of_ble_eq_true rfl⟩ hK hP hS rfl hl.1 rfl (Nat.le_of_ble_eq_true rfl) dX7_set_60 ⟨Nat.zero_le _, Nat.zero_le _⟩ (fun H locs hP hS => ?_)
            refine lv_if_eq (tgt := 70) hx hb dX7_set_63 (by decide) (fun c22 => ?_) (fun c22 => ?_)
            · have hF := (if_pos c22).symm.trans hF
              have hok := Eq.mp (if_pos c22) hok
              refine lv_iconst (v := 0) hx hb dX7_set_70 (by decide) ?_
              refine lv_iconst (v := 1) hx hb dX7_set_71 (by decide) ?_
              refine g_Vi hx hb hml hown hg (c_X7_fails l dC dI cI cZ x hi _ _ _) cs_X7_37 rfl rfl ⟨Nat.le_of_ble_eq_true rfl, Nat.le_of_ble_eq_true rfl⟩ hK hP hS (q0 := 0) rfl rfl rfl hl.1 rfl (Nat.le_of_ble_eq_true rfl) dX7_set_72 ⟨Nat.zero_le _, Nat.zero_le _⟩ (fun H locs hP hS => ?_)
              refine lv_if_eq (tgt := 79) hx hb dX7_set_75 (by decide) (fun c23 => ?_) (fun c23 => ?_)
              · have hF := (if_pos c23).symm.trans hF
                have hok := Eq.mp (if_pos c23) hok
                refine lv_aload_n hx hb dX7_set_79 rfl (lv_at hl 1 rfl) ?_
                refine ge_X7_s hx hb hg hown kf_X7_13 hK hP dX7_set_80 ?_
                refine lv_iload_n hx hb dX7_set_83 rfl (lv_at hl 2 rfl) ?_
                refine lv_iload_n hx hb dX7_set_84 rfl (lv_at hl 3 rfl) ?_
                obtain ⟨c24, hok⟩ := hok
                refine ma_s hi hx hb hK hP hS c24 dX7_set_85 (fun H locs hP hS => ?_)
                exact g_vret hx hb hr hlocks hP hS dX7_set_86 hF
              · have hF := (if_neg c23).symm.trans hF
                have hok := Eq.mp (if_neg c23) hok
                exact g_vret hx hb hr hlocks hP hS dX7_set_78 hF
            · have hF := (if_neg c22).symm.trans hF
              have hok := Eq.mp (if_neg c22) hok
              refine lv_iconst (v := 1) hx hb dX7_set_66 (by decide) ?_
              refine lv_goto (tgt := 71) hx hb dX7_set_67 (by decide) ?_
              refine lv_iconst (v := 1) hx hb dX7_set_71 (by decide) ?_
              refine g_Vi hx hb hml hown hg (c_X7_fails l dC dI cI cZ x hi _ _ _) cs_X7_37 rfl rfl ⟨Nat.le_of_ble_eq_true rfl, Nat.le_of_ble_eq_true rfl⟩ hK hP hS (q0 := 0) rfl rfl rfl hl.1 rfl (Nat.le_of_ble_eq_true rfl) dX7_set_72 ⟨Nat.zero_le _, Nat.zero_le _⟩ (fun H locs hP hS => ?_)
              refine lv_if_eq (tgt := 79) hx hb dX7_set_75 (by decide) (fun c25 => ?_) (fun c25 => ?_)
              · have hF := (if_pos c25).symm.trans hF
                have hok := Eq.mp (if_pos c25) hok
                refine lv_aload_n hx hb dX7_set_79 rfl (lv_at hl 1 rfl) ?_
                refine ge_X7_s hx hb hg hown kf_X7_13 hK hP dX7_set_80 ?_
                refine lv_iload_n hx hb dX7_set_83 rfl (lv_at hl 2 rfl) ?_
                refine lv_iload_n hx hb dX7_set_84 rfl (lv_at hl 3 rfl) ?_
                obtain ⟨c26, hok⟩ := hok
                refine ma_s hi hx hb hK hP hS c26 dX7_set_85 (fun H locs hP hS => ?_)
                exact g_vret hx hb hr hlocks hP hS dX7_set_86 hF
              · have hF := (if_neg c25).symm.trans hF
                have hok := Eq.mp (if_neg c25) hok
                exact g_vret hx hb hr hlocks hP hS dX7_set_78 hF
        · have hF := (if_neg c20).symm.trans hF
          have hok := Eq.mp (if_neg c20) hok
          refine lv_iload_n hx hb dX7_set_35 rfl (lv_at hl 1 rfl) ?_
          refine lv_bipush (v := 19) hx hb dX7_set_36 (by decide) ?_
          refine lv_icmp_ne (tgt := 46) hx hb dX7_set_38 (by decide) (fun c29 => ?_) (fun c29 => ?_)
          · have hF := (if_neg c29).symm.trans hF
            have hok := Eq.mp (if_neg c29) hok
            refine lv_iconst (v := 2) hx hb dX7_set_46 (by decide) ?_
            refine lv_istore_n hx hb dX7_set_47 rfl hl (by decide) rfl (fun ls hl => ?_)
            have hl : lv_has ls 4 [(3, _), (0, _), (1, _), (2, _)] := hl
            refine lv_aload_n hx hb dX7_set_48 rfl (lv_at hl 1 rfl) ?_
            refine lv_iload_n hx hb dX7_set_49 rfl (lv_at hl 2 rfl) ?_
            refine lv_bipush (v := 23) hx hb dX7_set_50 (by decide) ?_
            refine g_Si hx hb hml hown hg (c_X7_out l dC dI cI cZ x hi _ _ _) cs_X7_33 rfl rfl ⟨Nat.le_of_ble_eq_true rfl, Nat.le_of_ble_eq_true rfl⟩ hK hP hS rfl hl.1 rfl (Nat.le_of_ble_eq_true rfl) dX7_set_52 ⟨Nat.zero_le _, Nat.zero_le _⟩ (fun H locs hP hS => ?_)
            refine lv_if_ne (tgt := 66) hx hb dX7_set_55 (by decide) (fun c38 => ?_) (fun c38 => ?_)
            · have hF := (if_neg c38).symm.trans hF
              have hok := Eq.mp (if_neg c38) hok
              refine lv_iconst (v := 1) hx hb dX7_set_66 (by decide) ?_
              refine lv_goto (tgt := 71) hx hb dX7_set_67 (by decide) ?_
              refine lv_iconst (v := 1) hx hb dX7_set_71 (by decide) ?_
              refine g_Vi hx hb hml hown hg (c_X7_fails l dC dI cI cZ x hi _ _ _) cs_X7_37 rfl rfl ⟨Nat.le_of_ble_eq_true rfl, Nat.le_of_ble_eq_true rfl⟩ hK hP hS (q0 := 0) rfl rfl rfl hl.1 rfl (Nat.le_of_ble_eq_true rfl) dX7_set_72 ⟨Nat.zero_le _, Nat.zero_le _⟩ (fun H locs hP hS => ?_)
              refine lv_if_eq (tgt := 79) hx hb dX7_set_75 (by decide) (fun c44 => ?_) (fun c44 => ?_)
              · have hF := (if_pos c44).symm.trans hF
                have hok := Eq.mp (if_pos c44) hok
                refine lv_aload_n hx hb dX7_set_79 rfl (lv_at hl 1 rfl) ?_
                refine ge_X7_s hx hb hg hown kf_X7_13 hK hP dX7_set_80 ?_
                refine lv_iload_n hx hb dX7_set_83 rfl (lv_at hl 2 rfl) ?_
                refine lv_iload_n hx hb dX7_set_84 rfl (lv_at hl 3 rfl) ?_
                obtain ⟨c45, hok⟩ := hok
                refine ma_s hi hx hb hK hP hS c45 dX7_set_85 (fun H locs hP hS => ?_)
                exact g_vret hx hb hr hlocks hP hS dX7_set_86 hF
              · have hF := (if_neg c44).symm.trans hF
                have hok := Eq.mp (if_neg c44) hok
                exact g_vret hx hb hr hlocks hP hS dX7_set_78 hF
            · have hF := (if_pos c38).symm.trans hF
              have hok := Eq.mp (if_pos c38) hok
              refine lv_iload_n hx hb dX7_set_58 rfl (lv_at hl 3 rfl) ?_
              refine lv_iload_n hx hb dX7_set_59 rfl (lv_at hl 0 rfl) ?_
              refine g_Si hx hb hml hown hg (c_X7_out l dC dI cI cZ x hi _ _ _) cs_X7_33 rfl rfl ⟨Nat.le_of_ble_eq_true rfl, Nat.le_of_ble_eq_true rfl⟩ hK hP hS rfl hl.1 rfl (Nat.le_of_ble_eq_true rfl) dX7_set_60 ⟨Nat.zero_le _, Nat.zero_le _⟩ (fun H locs hP hS => ?_)
              refine lv_if_eq (tgt := 70) hx hb dX7_set_63 (by decide) (fun c39 => ?_) (fun c39 => ?_)
              · have hF := (if_pos c39).symm.trans hF
                have hok := Eq.mp (if_pos c39) hok
                refine lv_iconst (v := 0) hx hb dX7_set_70 (by decide) ?_
                refine lv_iconst (v := 1) hx hb dX7_set_71 (by decide) ?_
                refine g_Vi hx hb hml hown hg (c_X7_fails l dC dI cI cZ x hi _ _ _) cs_X7_37 rfl rfl ⟨Nat.le_of_ble_eq_true rfl, Nat.le_of_ble_eq_true rfl⟩ hK hP hS (q0 := 0) rfl rfl rfl hl.1 rfl (Nat.le_of_ble_eq_true rfl) dX7_set_72 ⟨Nat.zero_le _, Nat.zero_le _⟩ (fun H locs hP hS => ?_)
                refine lv_if_eq (tgt := 79) hx hb dX7_set_75 (by decide) (fun c40 => ?_) (fun c40 => ?_)
                · have hF := (if_pos c40).symm.trans hF
                  have hok := Eq.mp (if_pos c40) hok
                  refine lv_aload_n hx hb dX7_set_79 rfl (lv_at hl 1 rfl) ?_
                  refine ge_X7_s hx hb hg hown kf_X7_13 hK hP dX7_set_80 ?_
                  refine lv_iload_n hx hb dX7_set_83 rfl (lv_at hl 2 rfl) ?_
                  refine lv_iload_n hx hb dX7_set_84 rfl (lv_at hl 3 rfl) ?_
                  obtain ⟨c41, hok⟩ := hok
                  refine ma_s hi hx hb hK hP hS c41 dX7_set_85 (fun H locs hP hS => ?_)
                  exact g_vret hx hb hr hlocks hP hS dX7_set_86 hF
                · have hF := (if_neg c40).symm.trans hF
                  have hok := Eq.mp (if_neg c40) hok
                  exact g_vret hx hb hr hlocks hP hS dX7_set_78 hF
              · have hF := (if_neg c39).symm.trans hF
                have hok := Eq.mp (if_neg c39) hok
                refine lv_iconst (v := 1) hx hb dX7_set_66 (by decide) ?_
                refine lv_goto (tgt := 71) hx hb dX7_set_67 (by decide) ?_
                refine lv_iconst (v := 1) hx hb dX7_set_71 (by decide) ?_
                refine g_Vi hx hb hml hown hg (c_X7_fails l dC dI cI cZ x hi _ _ _) cs_X7_37 rfl rfl ⟨Nat.le_of_ble_eq_true rfl, Nat.le_of_ble_eq_true rfl⟩ hK hP hS (q0 := 0) rfl rfl rfl hl.1 rfl (Nat.le_of_ble_eq_true rfl) dX7_set_72 ⟨Nat.zero_le _, Nat.zero_le _⟩ (fun H locs hP hS => ?_)
                refine lv_if_eq (tgt := 79) hx hb dX7_set_75 (by decide) (fun c42 => ?_) (fun c42 => ?_)
                · have hF := (if_pos c42).symm.trans hF
                  have hok := Eq.mp (if_pos c42) hok
                  refine lv_aload_n hx hb dX7_set_79 rfl (lv_at hl 1 rfl) ?_
                  refine ge_X7_s hx hb hg hown kf_X7_13 hK hP dX7_set_80 ?_
                  refine lv_iload_n hx hb dX7_set_83 rfl (lv_at hl 2 rfl) ?_
                  refine lv_iload_n hx hb dX7_set_84 rfl (lv_at hl 3 rfl) ?_
                  obtain ⟨c43, hok⟩ := hok
                  refine ma_s hi hx hb hK hP hS c43 dX7_set_85 (fun H locs hP hS => ?_)
                  exact g_vret hx hb hr hlocks hP hS dX7_set_86 hF
                · have hF := (if_neg c42).symm.trans hF
                  have hok := Eq.mp (if_neg c42) hok
                  exact g_vret hx hb hr hlocks hP hS dX7_set_78 hF
          · have hF := (if_pos c29).symm.trans hF
            have hok := Eq.mp (if_pos c29) hok
            refine lv_bipush (v := 16) hx hb dX7_set_41 (by decide) ?_
            refine lv_goto (tgt := 47) hx hb dX7_set_43 (by decide) ?_
            refine lv_istore_n hx hb dX7_set_47 rfl hl (by decide) rfl (fun ls hl => ?_)
            have hl : lv_has ls 4 [(3, _), (0, _), (1, _), (2, _)] := hl
            refine lv_aload_n hx hb dX7_set_48 rfl (lv_at hl 1 rfl) ?_
            refine lv_iload_n hx hb dX7_set_49 rfl (lv_at hl 2 rfl) ?_
            refine lv_bipush (v := 23) hx hb dX7_set_50 (by decide) ?_
            refine g_Si hx hb hml hown hg (c_X7_out l dC dI cI cZ x hi _ _ _) cs_X7_33 rfl rfl ⟨Nat.le_of_ble_eq_true rfl, Nat.le_of_ble_eq_true rfl⟩ hK hP hS rfl hl.1 rfl (Nat.le_of_ble_eq_true rfl) dX7_set_52 ⟨Nat.zero_le _, Nat.zero_le _⟩ (fun H locs hP hS => ?_)
            refine lv_if_ne (tgt := 66) hx hb dX7_set_55 (by decide) (fun c30 => ?_) (fun c30 => ?_)
            · have hF := (if_neg c30).symm.trans hF
              have hok := Eq.mp (if_neg c30) hok
              refine lv_iconst (v := 1) hx hb dX7_set_66 (by decide) ?_
              refine lv_goto (tgt := 71) hx hb dX7_set_67 (by decide) ?_
              refine lv_iconst (v := 1) hx hb dX7_set_71 (by decide) ?_
              refine g_Vi hx hb hml hown hg (c_X7_fails l dC dI cI cZ x hi _ _ _) cs_X7_37 rfl rfl ⟨Nat.le_of_ble_eq_true rfl, Nat.le_of_ble_eq_true rfl⟩ hK hP hS (q0 := 0) rfl rfl rfl hl.1 rfl (Nat.le_of_ble_eq_true rfl) dX7_set_72 ⟨Nat.zero_le _, Nat.zero_le _⟩ (fun H locs hP hS => ?_)
              refine lv_if_eq (tgt := 79) hx hb dX7_set_75 (by decide) (fun c36 => ?_) (fun c36 => ?_)
              · have hF := (if_pos c36).symm.trans hF
                have hok := Eq.mp (if_pos c36) hok
                refine lv_aload_n hx hb dX7_set_79 rfl (lv_at hl 1 rfl) ?_
                refine ge_X7_s hx hb hg hown kf_X7_13 hK hP dX7_set_80 ?_
                refine lv_iload_n hx hb dX7_set_83 rfl (lv_at hl 2 rfl) ?_
                refine lv_iload_n hx hb dX7_set_84 rfl (lv_at hl 3 rfl) ?_
                obtain ⟨c37, hok⟩ := hok
                refine ma_s hi hx hb hK hP hS c37 dX7_set_85 (fun H locs hP hS => ?_)
                exact g_vret hx hb hr hlocks hP hS dX7_set_86 hF
              · have hF := (if_neg c36).symm.trans hF
                have hok := Eq.mp (if_neg c36) hok
                exact g_vret hx hb hr hlocks hP hS dX7_set_78 hF
            · have hF := (if_pos c30).symm.trans hF
              have hok := Eq.mp (if_pos c30) hok
              refine lv_iload_n hx hb dX7_set_58 rfl (lv_at hl 3 rfl) ?_
              refine lv_iload_n hx hb dX7_set_59 rfl (lv_at hl 0 rfl) ?_
              refine g_Si hx hb hml hown hg (c_X7_out l dC dI cI cZ x hi _ _ _) cs_X7_33 rfl rfl ⟨Nat.le_of_ble_eq_true rfl, Nat.le_of_ble_eq_true rfl⟩ hK hP hS rfl hl.1 rfl (Nat.le_of_ble_eq_true rfl) dX7_set_60 ⟨Nat.zero_le _, Nat.zero_le _⟩ (fun H locs hP hS => ?_)
              refine lv_if_eq (tgt := 70) hx hb dX7_set_63 (by decide) (fun c31 => ?_) (fun c31 => ?_)
              · have hF := (if_pos c31).symm.trans hF
                have hok := Eq.mp (if_pos c31) hok
                refine lv_iconst (v := 0) hx hb dX7_set_70 (by decide) ?_
                refine lv_iconst (v := 1) hx hb dX7_set_71 (by decide) ?_
                refine g_Vi hx hb hml hown hg (c_X7_fails l dC dI cI cZ x hi _ _ _) cs_X7_37 rfl rfl ⟨Nat.le_of_ble_eq_true rfl, Nat.le_of_ble_eq_true rfl⟩ hK hP hS (q0 := 0) rfl rfl rfl hl.1 rfl (Nat.le_of_ble_eq_true rfl) dX7_set_72 ⟨Nat.zero_le _, Nat.zero_le _⟩ (fun H locs hP hS => ?_)
                refine lv_if_eq (tgt := 79) hx hb dX7_set_75 (by decide) (fun c32 => ?_) (fun c32 => ?_)
                · have hF := (if_pos c32).symm.trans hF
                  have hok := Eq.mp (if_pos c32) hok
                  refine lv_aload_n hx hb dX7_set_79 rfl (lv_at hl 1 rfl) ?_
                  refine ge_X7_s hx hb hg hown kf_X7_13 hK hP dX7_set_80 ?_
                  refine lv_iload_n hx hb dX7_set_83 rfl (lv_at hl 2 rfl) ?_
                  refine lv_iload_n hx hb dX7_set_84 rfl (lv_at hl 3 rfl) ?_
                  obtain ⟨c33, hok⟩ := hok
                  refine ma_s hi hx hb hK hP hS c33 dX7_set_85 (fun H locs hP hS => ?_)
                  exact g_vret hx hb hr hlocks hP hS dX7_set_86 hF
                · have hF := (if_neg c32).symm.trans hF
                  have hok := Eq.mp (if_neg c32) hok
                  exact g_vret hx hb hr hlocks hP hS dX7_set_78 hF
              · have hF := (if_neg c31).symm.trans hF
                have hok := Eq.mp (if_neg c31) hok
                refine lv_iconst (v := 1) hx hb dX7_set_66 (by decide) ?_
                refine lv_goto (tgt := 71) hx hb dX7_set_67 (by decide) ?_
                refine lv_iconst (v := 1) hx hb dX7_set_71 (by decide) ?_
                refine g_Vi hx hb hml hown hg (c_X7_fails l dC dI cI cZ x hi _ _ _) cs_X7_37 rfl rfl ⟨Nat.le_of_ble_eq_true rfl, Nat.le_of_ble_eq_true rfl⟩ hK hP hS (q0 := 0) rfl rfl rfl hl.1 rfl (Nat.le_of_ble_eq_true rfl) dX7_set_72 ⟨Nat.zero_le _, Nat.zero_le _⟩ (fun H locs hP hS => ?_)
                refine lv_if_eq (tgt := 79) hx hb dX7_set_75 (by decide) (fun c34 => ?_) (fun c34 => ?_)
                · have hF := (if_pos c34).symm.trans hF
                  have hok := Eq.mp (if_pos c34) hok
                  refine lv_aload_n hx hb dX7_set_79 rfl (lv_at hl 1 rfl) ?_
                  refine ge_X7_s hx hb hg hown kf_X7_13 hK hP dX7_set_80 ?_
                  refine lv_iload_n hx hb dX7_set_83 rfl (lv_at hl 2 rfl) ?_
                  refine lv_iload_n hx hb dX7_set_84 rfl (lv_at hl 3 rfl) ?_
                  obtain ⟨c35, hok⟩ := hok
                  refine ma_s hi hx hb hK hP hS c35 dX7_set_85 (fun H locs hP hS => ?_)
                  exact g_vret hx hb hr hlocks hP hS dX7_set_86 hF
                · have hF := (if_neg c34).symm.trans hF
                  have hok := Eq.mp (if_neg c34) hok
                  exact g_vret hx hb hr hlocks hP hS dX7_set_78 hF
      · have hF := (if_pos c11).symm.trans hF
        have hok := Eq.mp (if_pos c11) hok
        refine lv_sipush (v := 256) hx hb dX7_set_23 (by decide) ?_
        refine lv_goto (tgt := 47) hx hb dX7_set_26 (by decide) ?_
        refine lv_istore_n hx hb dX7_set_47 rfl hl (by decide) rfl (fun ls hl => ?_)
        have hl : lv_has ls 4 [(3, _), (0, _), (1, _), (2, _)] := hl
        refine lv_aload_n hx hb dX7_set_48 rfl (lv_at hl 1 rfl) ?_
        refine lv_iload_n hx hb dX7_set_49 rfl (lv_at hl 2 rfl) ?_
        refine lv_bipush (v := 23) hx hb dX7_set_50 (by decide) ?_
        refine g_Si hx hb hml hown hg (c_X7_out l dC dI cI cZ x hi _ _ _) cs_X7_33 rfl rfl ⟨Nat.le_of_ble_eq_true rfl, Nat.le_of_ble_eq_true rfl⟩ hK hP hS rfl hl.1 rfl (Nat.le_of_ble_eq_true rfl) dX7_set_52 ⟨Nat.zero_le _, Nat.zero_le _⟩ (fun H locs hP hS => ?_)
        refine lv_if_ne (tgt := 66) hx hb dX7_set_55 (by decide) (fun c12 => ?_) (fun c12 => ?_)
        · have hF := (if_neg c12).symm.trans hF
          have hok := Eq.mp (if_neg c12) hok
          refine lv_iconst (v := 1) hx hb dX7_set_66 (by decide) ?_
          refine lv_goto (tgt := 71) hx hb dX7_set_67 (by decide) ?_
          refine lv_iconst (v := 1) hx hb dX7_set_71 (by decide) ?_
          refine g_Vi hx hb hml hown hg (c_X7_fails l dC dI cI cZ x hi _ _ _) cs_X7_37 rfl rfl ⟨Nat.le_of_ble_eq_true rfl, Nat.le_of_ble_eq_true rfl⟩ hK hP hS (q0 := 0) rfl rfl rfl hl.1 rfl (Nat.le_of_ble_eq_true rfl) dX7_set_72 ⟨Nat.zero_le _, Nat.zero_le _⟩ (fun H locs hP hS => ?_)
          refine lv_if_eq (tgt := 79) hx hb dX7_set_75 (by decide) (fun c18 => ?_) (fun c18 => ?_)
          · have hF := (if_pos c18).symm.trans hF
            have hok := Eq.mp (if_pos c18) hok
            refine lv_aload_n hx hb dX7_set_79 rfl (lv_at hl 1 rfl) ?_
            refine ge_X7_s hx hb hg hown kf_X7_13 hK hP dX7_set_80 ?_
            refine lv_iload_n hx hb dX7_set_83 rfl (lv_at hl 2 rfl) ?_
            refine lv_iload_n hx hb dX7_set_84 rfl (lv_at hl 3 rfl) ?_
            obtain ⟨c19, hok⟩ := hok
            refine ma_s hi hx hb hK hP hS c19 dX7_set_85 (fun H locs hP hS => ?_)
            exact g_vret hx hb hr hlocks hP hS dX7_set_86 hF
          · have hF := (if_neg c18).symm.trans hF
            have hok := Eq.mp (if_neg c18) hok
            exact g_vret hx hb hr hlocks hP hS dX7_set_78 hF
        · have hF := (if_pos c12).symm.trans hF
          have hok := Eq.mp (if_pos c12) hok
          refine lv_iload_n hx hb dX7_set_58 rfl (lv_at hl 3 rfl) ?_
          refine lv_iload_n hx hb dX7_set_59 rfl (lv_at hl 0 rfl) ?_
          refine g_Si hx hb hml hown hg (c_X7_out l dC dI cI cZ x hi _ _ _) cs_X7_33 rfl rfl ⟨Nat.le_of_ble_eq_true rfl, Nat.le_of_ble_eq_true rfl⟩ hK hP hS rfl hl.1 rfl (Nat.le_of_ble_eq_true rfl) dX7_set_60 ⟨Nat.zero_le _, Nat.zero_le _⟩ (fun H locs hP hS => ?_)
          refine lv_if_eq (tgt := 70) hx hb dX7_set_63 (by decide) (fun c13 => ?_) (fun c13 => ?_)
          · have hF := (if_pos c13).symm.trans hF
            have hok := Eq.mp (if_pos c13) hok
            refine lv_iconst (v := 0) hx hb dX7_set_70 (by decide) ?_
            refine lv_iconst (v := 1) hx hb dX7_set_71 (by decide) ?_
            refine g_Vi hx hb hml hown hg (c_X7_fails l dC dI cI cZ x hi _ _ _) cs_X7_37 rfl rfl ⟨Nat.le_of_ble_eq_true rfl, Nat.le_of_ble_eq_true rfl⟩ hK hP hS (q0 := 0) rfl rfl rfl hl.1 rfl (Nat.le_of_ble_eq_true rfl) dX7_set_72 ⟨Nat.zero_le _, Nat.zero_le _⟩ (fun H locs hP hS => ?_)
            refine lv_if_eq (tgt := 79) hx hb dX7_set_75 (by decide) (fun c14 => ?_) (fun c14 => ?_)
            · have hF := (if_pos c14).symm.trans hF
              have hok := Eq.mp (if_pos c14) hok
              refine lv_aload_n hx hb dX7_set_79 rfl (lv_at hl 1 rfl) ?_
              refine ge_X7_s hx hb hg hown kf_X7_13 hK hP dX7_set_80 ?_
              refine lv_iload_n hx hb dX7_set_83 rfl (lv_at hl 2 rfl) ?_
              refine lv_iload_n hx hb dX7_set_84 rfl (lv_at hl 3 rfl) ?_
              obtain ⟨c15, hok⟩ := hok
              refine ma_s hi hx hb hK hP hS c15 dX7_set_85 (fun H locs hP hS => ?_)
              exact g_vret hx hb hr hlocks hP hS dX7_set_86 hF
            · have hF := (if_neg c14).symm.trans hF
              have hok := Eq.mp (if_neg c14) hok
              exact g_vret hx hb hr hlocks hP hS dX7_set_78 hF
          · have hF := (if_neg c13).symm.trans hF
            have hok := Eq.mp (if_neg c13) hok
            refine lv_iconst (v := 1) hx hb dX7_set_66 (by decide) ?_
            refine lv_goto (tgt := 71) hx hb dX7_set_67 (by decide) ?_
            refine lv_iconst (v := 1) hx hb dX7_set_71 (by decide) ?_
            refine g_Vi hx hb hml hown hg (c_X7_fails l dC dI cI cZ x hi _ _ _) cs_X7_37 rfl rfl ⟨Nat.le_of_ble_eq_true rfl, Nat.le_of_ble_eq_true rfl⟩ hK hP hS (q0 := 0) rfl rfl rfl hl.1 rfl (Nat.le_of_ble_eq_true rfl) dX7_set_72 ⟨Nat.zero_le _, Nat.zero_le _⟩ (fun H locs hP hS => ?_)
            refine lv_if_eq (tgt := 79) hx hb dX7_set_75 (by decide) (fun c16 => ?_) (fun c16 => ?_)
            · have hF := (if_pos c16).symm.trans hF
              have hok := Eq.mp (if_pos c16) hok
              refine lv_aload_n hx hb dX7_set_79 rfl (lv_at hl 1 rfl) ?_
              refine ge_X7_s hx hb hg hown kf_X7_13 hK hP dX7_set_80 ?_
              refine lv_iload_n hx hb dX7_set_83 rfl (lv_at hl 2 rfl) ?_
              refine lv_iload_n hx hb dX7_set_84 rfl (lv_at hl 3 rfl) ?_
              obtain ⟨c17, hok⟩ := hok
              refine ma_s hi hx hb hK hP hS c17 dX7_set_85 (fun H locs hP hS => ?_)
              exact g_vret hx hb hr hlocks hP hS dX7_set_86 hF
            · have hF := (if_neg c16).symm.trans hF
              have hok := Eq.mp (if_neg c16) hok
              exact g_vret hx hb hr hlocks hP hS dX7_set_78 hF
  · have hF := (if_neg c1).symm.trans hF
    have hok := Eq.mp (if_neg c1) hok
    refine lv_ldc (v := 65536) hx hb hown (hg _ kd_X7_41) dX7_set_6 ?_
    refine lv_goto (tgt := 47) hx hb dX7_set_8 (by decide) ?_
    refine lv_istore_n hx hb dX7_set_47 rfl hl (by decide) rfl (fun ls hl => ?_)
    have hl : lv_has ls 4 [(3, _), (0, _), (1, _), (2, _)] := hl
    refine lv_aload_n hx hb dX7_set_48 rfl (lv_at hl 1 rfl) ?_
    refine lv_iload_n hx hb dX7_set_49 rfl (lv_at hl 2 rfl) ?_
    refine lv_bipush (v := 23) hx hb dX7_set_50 (by decide) ?_
    refine g_Si hx hb hml hown hg (c_X7_out l dC dI cI cZ x hi _ _ _) cs_X7_33 rfl rfl ⟨Nat.le_of_ble_eq_true rfl, Nat.le_of_ble_eq_true rfl⟩ hK hP hS rfl hl.1 rfl (Nat.le_of_ble_eq_true rfl) dX7_set_52 ⟨Nat.zero_le _, Nat.zero_le _⟩ (fun H locs hP hS => ?_)
    refine lv_if_ne (tgt := 66) hx hb dX7_set_55 (by decide) (fun c46 => ?_) (fun c46 => ?_)
    · have hF := (if_neg c46).symm.trans hF
      have hok := Eq.mp (if_neg c46) hok
      refine lv_iconst (v := 1) hx hb dX7_set_66 (by decide) ?_
      refine lv_goto (tgt := 71) hx hb dX7_set_67 (by decide) ?_
      refine lv_iconst (v := 1) hx hb dX7_set_71 (by decide) ?_
      refine g_Vi hx hb hml hown hg (c_X7_fails l dC dI cI cZ x hi _ _ _) cs_X7_37 rfl rfl ⟨Nat.le_of_ble_eq_true rfl, Nat.le_of_ble_eq_true rfl⟩ hK hP hS (q0 := 0) rfl rfl rfl hl.1 rfl (Nat.le_of_ble_eq_true rfl) dX7_set_72 ⟨Nat.zero_le _, Nat.zero_le _⟩ (fun H locs hP hS => ?_)
      refine lv_if_eq (tgt := 79) hx hb dX7_set_75 (by decide) (fun c52 => ?_) (fun c52 => ?_)
      · have hF := (if_pos c52).symm.trans hF
        have hok := Eq.mp (if_pos c52) hok
        refine lv_aload_n hx hb dX7_set_79 rfl (lv_at hl 1 rfl) ?_
        refine ge_X7_s hx hb hg hown kf_X7_13 hK hP dX7_set_80 ?_
        refine lv_iload_n hx hb dX7_set_83 rfl (lv_at hl 2 rfl) ?_
        refine lv_iload_n hx hb dX7_set_84 rfl (lv_at hl 3 rfl) ?_
        obtain ⟨c53, hok⟩ := hok
        refine ma_s hi hx hb hK hP hS c53 dX7_set_85 (fun H locs hP hS => ?_)
        exact g_vret hx hb hr hlocks hP hS dX7_set_86 hF
      · have hF := (if_neg c52).symm.trans hF
        have hok := Eq.mp (if_neg c52) hok
        exact g_vret hx hb hr hlocks hP hS dX7_set_78 hF
    · have hF := (if_pos c46).symm.trans hF
      have hok := Eq.mp (if_pos c46) hok
      refine lv_iload_n hx hb dX7_set_58 rfl (lv_at hl 3 rfl) ?_
      refine lv_iload_n hx hb dX7_set_59 rfl (lv_at hl 0 rfl) ?_
      refine g_Si hx hb hml hown hg (c_X7_out l dC dI cI cZ x hi _ _ _) cs_X7_33 rfl rfl ⟨Nat.le_of_ble_eq_true rfl, Nat.le_of_ble_eq_true rfl⟩ hK hP hS rfl hl.1 rfl (Nat.le_of_ble_eq_true rfl) dX7_set_60 ⟨Nat.zero_le _, Nat.zero_le _⟩ (fun H locs hP hS => ?_)
      refine lv_if_eq (tgt := 70) hx hb dX7_set_63 (by decide) (fun c47 => ?_) (fun c47 => ?_)
      · have hF := (if_pos c47).symm.trans hF
        have hok := Eq.mp (if_pos c47) hok
        refine lv_iconst (v := 0) hx hb dX7_set_70 (by decide) ?_
        refine lv_iconst (v := 1) hx hb dX7_set_71 (by decide) ?_
        refine g_Vi hx hb hml hown hg (c_X7_fails l dC dI cI cZ x hi _ _ _) cs_X7_37 rfl rfl ⟨Nat.le_of_ble_eq_true rfl, Nat.le_of_ble_eq_true rfl⟩ hK hP hS (q0 := 0) rfl rfl rfl hl.1 rfl (Nat.le_of_ble_eq_true rfl) dX7_set_72 ⟨Nat.zero_le _, Nat.zero_le _⟩ (fun H locs hP hS => ?_)
        refine lv_if_eq (tgt := 79) hx hb dX7_set_75 (by decide) (fun c48 => ?_) (fun c48 => ?_)
        · have hF := (if_pos c48).symm.trans hF
          have hok := Eq.mp (if_pos c48) hok
          refine lv_aload_n hx hb dX7_set_79 rfl (lv_at hl 1 rfl) ?_
          refine ge_X7_s hx hb hg hown kf_X7_13 hK hP dX7_set_80 ?_
          refine lv_iload_n hx hb dX7_set_83 rfl (lv_at hl 2 rfl) ?_
          refine lv_iload_n hx hb dX7_set_84 rfl (lv_at hl 3 rfl) ?_
          obtain ⟨c49, hok⟩ := hok
          refine ma_s hi hx hb hK hP hS c49 dX7_set_85 (fun H locs hP hS => ?_)
          exact g_vret hx hb hr hlocks hP hS dX7_set_86 hF
        · have hF := (if_neg c48).symm.trans hF
          have hok := Eq.mp (if_neg c48) hok
          exact g_vret hx hb hr hlocks hP hS dX7_set_78 hF
      · have hF := (if_neg c47).symm.trans hF
        have hok := Eq.mp (if_neg c47) hok
        refine lv_iconst (v := 1) hx hb dX7_set_66 (by decide) ?_
        refine lv_goto (tgt := 71) hx hb dX7_set_67 (by decide) ?_
        refine lv_iconst (v := 1) hx hb dX7_set_71 (by decide) ?_
        refine g_Vi hx hb hml hown hg (c_X7_fails l dC dI cI cZ x hi _ _ _) cs_X7_37 rfl rfl ⟨Nat.le_of_ble_eq_true rfl, Nat.le_of_ble_eq_true rfl⟩ hK hP hS (q0 := 0) rfl rfl rfl hl.1 rfl (Nat.le_of_ble_eq_true rfl) dX7_set_72 ⟨Nat.zero_le _, Nat.zero_le _⟩ (fun H locs hP hS => ?_)
        refine lv_if_eq (tgt := 79) hx hb dX7_set_75 (by decide) (fun c50 => ?_) (fun c50 => ?_)
        · have hF := (if_pos c50).symm.trans hF
          have hok := Eq.mp (if_pos c50) hok
          refine lv_aload_n hx hb dX7_set_79 rfl (lv_at hl 1 rfl) ?_
          refine ge_X7_s hx hb hg hown kf_X7_13 hK hP dX7_set_80 ?_
          refine lv_iload_n hx hb dX7_set_83 rfl (lv_at hl 2 rfl) ?_
          refine lv_iload_n hx hb dX7_set_84 rfl (lv_at hl 3 rfl) ?_
          obtain ⟨c51, hok⟩ := hok
          refine ma_s hi hx hb hK hP hS c51 dX7_set_85 (fun H locs hP hS => ?_)
          exact g_vret hx hb hr hlocks hP hS dX7_set_86 hF
        · have hF := (if_neg c50).symm.trans hF
          have hok := Eq.mp (if_neg c50) hok
          exact g_vret hx hb hr hlocks hP hS dX7_set_78 hF
def f_X7_grow (u : MS) (p0 : Int32) (p1 : Int32) : MS :=
  let u1 : MS := ms_s u (upd (mq_s u) (p0).toNatClampNeg (((mq_s u (p0).toNatClampNeg) + p1) &&& 65535))
  u1
def ok_X7_grow (u : MS) (p0 : Int32) (p1 : Int32) : Prop :=
  vp_in p0 24 ∧
  vp_in p0 24 ∧
  let u1 : MS := ms_s u (upd (mq_s u) (p0).toNatClampNeg (((mq_s u (p0).toNatClampNeg) + p1) &&& 65535))
  True
set_option maxHeartbeats 4000000 in
set_option maxRecDepth 100000 in
theorem c_X7_grow (l : Launch) (dC : Nat → ClassId) (dI : Nat → Nat → Nat) (cI cZ : ClassId) (x : Nat → Nat) (hi : g_inj 7 x) (u : MS) (p0 : Int32) (p1 : Int32) (hok : ok_X7_grow u p0 p1) : g_Mv l yX7_grow (.code yX7_grow cX7_grow 3 none) { frames := 0, cells := 0, slots := 0, locals := 0 } (dC, dI) vwCl (tysW cI cZ) (wM x cI cZ) (g_bA 7 x) u [.ref (x 0), .int p0, .int p1] (f_X7_grow u p0 p1) := by
  refine Met.ofW (cc := cX7_grow) (maxL := 3) (ret := none) (by decide) rfl ?_
  intro p e s m args below meth c s₁ B hml hv
  obtain ⟨rfl, hP, hK⟩ := hv
  have hx := B.exec
  have hb := B.bytes
  have hr := B.returns
  have hts := atoms_spec (ws := .code yX7_grow cX7_grow 3 none :: gtbl) B.pre
  have hg : ∀ w ∈ gtbl, w.before _ s = true := fun w h => hts w (List.mem_cons_of_mem _ h)
  have hown : s.vm.findClass RX7 = some m.cls := findClass_of_methodNamed B.named
  have hlocks := B.notSynchronized
  have hS : va_S (g_bA 7 x) s.heap s.heap [] := va_S.rf
  have hl := lv_entry ([.ref (x 0), .int p0, .int p1]) (n := 3) (Nat.le_of_ble_eq_true rfl)
  rw [lg_entry_eq]
  generalize (lg_sl ([.ref (x 0), .int p0, .int p1]) ++ List.replicate (3 - (lg_sl ([.ref (x 0), .int p0, .int p1])).length) Slot.unset).toArray = ls at hl ⊢
  have hl : lv_has ls 3 [(0, .ref (x 0)), (1, .int p0), (2, .int p1)] := hl
  obtain ⟨F, hF⟩ : ∃ F, f_X7_grow u p0 p1 = F := ⟨_, rfl⟩
  rw [hF]
  refine lv_aload_n hx hb dX7_grow_0 rfl (lv_at hl 0 rfl) ?_
  refine ge_X7_s hx hb hg hown kf_X7_13 hK hP dX7_grow_1 ?_
  refine lv_iload_n hx hb dX7_grow_4 rfl (lv_at hl 1 rfl) ?_
  refine lv_aload_n hx hb dX7_grow_5 rfl (lv_at hl 0 rfl) ?_
  refine ge_X7_s hx hb hg hown kf_X7_13 hK hP dX7_grow_6 ?_
  refine lv_iload_n hx hb dX7_grow_9 rfl (lv_at hl 1 rfl) ?_
  obtain ⟨c1, hok⟩ := hok
  refine ml_s hx hb hK hP c1 dX7_grow_10 ?_
  refine lv_iload_n hx hb dX7_grow_11 rfl (lv_at hl 2 rfl) ?_
  refine lv_iadd hx hb dX7_grow_12 ?_
  refine lv_ldc (v := 65535) hx hb hown (hg _ kd_X7_42) dX7_grow_13 ?_
  refine lv_iand hx hb dX7_grow_15 ?_
  obtain ⟨c2, hok⟩ := hok
  refine ma_s hi hx hb hK hP hS c2 dX7_grow_16 (fun H locs hP hS => ?_)
  exact g_vret hx hb hr hlocks hP hS dX7_grow_17 hF
def f_X7_m (u : MS) (p0 : Int32) : Int32 :=
  (f_X7_byteAt u (mq_s u (p0).toNatClampNeg))
def ok_X7_m (u : MS) (p0 : Int32) : Prop :=
  vp_in p0 24 ∧
  True
set_option maxHeartbeats 4000000 in
set_option maxRecDepth 100000 in
theorem c_X7_m (l : Launch) (dC : Nat → ClassId) (dI : Nat → Nat → Nat) (cI cZ : ClassId) (x : Nat → Nat) (hi : g_inj 7 x) (u : MS) (p0 : Int32) (hok : ok_X7_m u p0) : g_Mi l yX7_m (.code yX7_m cX7_m 2 (some .int)) { frames := 1, cells := 0, slots := 0, locals := 21 } (dC, dI) vwCl (tysW cI cZ) (wM x cI cZ) (g_bA 7 x) u [.ref (x 0), .int p0] (f_X7_m u p0) u := by
  refine Met.ofW (cc := cX7_m) (maxL := 2) (ret := (some .int)) (by decide) rfl ?_
  intro p e s m args below meth c s₁ B hml hv
  obtain ⟨rfl, hP, hK⟩ := hv
  have hx := B.exec
  have hb := B.bytes
  have hr := B.returns
  have hts := atoms_spec (ws := .code yX7_m cX7_m 2 (some .int) :: gtbl) B.pre
  have hg : ∀ w ∈ gtbl, w.before _ s = true := fun w h => hts w (List.mem_cons_of_mem _ h)
  have hown : s.vm.findClass RX7 = some m.cls := findClass_of_methodNamed B.named
  have hlocks := B.notSynchronized
  have hS : va_S (g_bA 7 x) s.heap s.heap [] := va_S.rf
  have hl := lv_entry ([.ref (x 0), .int p0]) (n := 2) (Nat.le_of_ble_eq_true rfl)
  rw [lg_entry_eq]
  generalize (lg_sl ([.ref (x 0), .int p0]) ++ List.replicate (2 - (lg_sl ([.ref (x 0), .int p0])).length) Slot.unset).toArray = ls at hl ⊢
  have hl : lv_has ls 2 [(0, .ref (x 0)), (1, .int p0)] := hl
  obtain ⟨F, hF⟩ : ∃ F, f_X7_m u p0 = F := ⟨_, rfl⟩
  rw [hF]
  refine lv_aload_n hx hb dX7_m_0 rfl (lv_at hl 0 rfl) ?_
  refine lv_aload_n hx hb dX7_m_1 rfl (lv_at hl 0 rfl) ?_
  refine ge_X7_s hx hb hg hown kf_X7_13 hK hP dX7_m_2 ?_
  refine lv_iload_n hx hb dX7_m_5 rfl (lv_at hl 1 rfl) ?_
  obtain ⟨c1, hok⟩ := hok
  refine ml_s hx hb hK hP c1 dX7_m_6 ?_
  refine g_Vi hx hb hml hown hg (c_X7_byteAt l dC dI cI cZ x hi _ _) cs_X7_43 rfl rfl ⟨Nat.le_of_ble_eq_true rfl, Nat.le_of_ble_eq_true rfl⟩ hK hP hS (q0 := 0) rfl rfl rfl hl.1 rfl (Nat.le_of_ble_eq_true rfl) dX7_m_7 ⟨Nat.zero_le _, Nat.zero_le _⟩ (fun H locs hP hS => ?_)
  exact g_iret hx hb hr hlocks hP hS dX7_m_10 hF rfl
def f_X7_next (u : MS) : Int32 × MS :=
  let t1 : Int32 := (f_X7_m u (mq_s u 18))
  let r2 : MS := f_X7_grow u (mq_s u 18) 1
  (t1, r2)
def ok_X7_next (u : MS) : Prop :=
  ok_X7_m u (mq_s u 18) ∧
  let t1 : Int32 := (f_X7_m u (mq_s u 18))
  ok_X7_grow u (mq_s u 18) 1 ∧
  let r2 : MS := f_X7_grow u (mq_s u 18) 1
  True
set_option maxHeartbeats 4000000 in
set_option maxRecDepth 100000 in
theorem c_X7_next (l : Launch) (dC : Nat → ClassId) (dI : Nat → Nat → Nat) (cI cZ : ClassId) (x : Nat → Nat) (hi : g_inj 7 x) (u : MS) (hok : ok_X7_next u) : g_Mi l yX7_next (.code yX7_next cX7_next 2 (some .int)) { frames := 2, cells := 0, slots := 0, locals := 42 } (dC, dI) vwCl (tysW cI cZ) (wM x cI cZ) (g_bA 7 x) u [.ref (x 0)] (f_X7_next u).1 (f_X7_next u).2 := by
  refine Met.ofW (cc := cX7_next) (maxL := 2) (ret := (some .int)) (by decide) rfl ?_
  intro p e s m args below meth c s₁ B hml hv
  obtain ⟨rfl, hP, hK⟩ := hv
  have hx := B.exec
  have hb := B.bytes
  have hr := B.returns
  have hts := atoms_spec (ws := .code yX7_next cX7_next 2 (some .int) :: gtbl) B.pre
  have hg : ∀ w ∈ gtbl, w.before _ s = true := fun w h => hts w (List.mem_cons_of_mem _ h)
  have hown : s.vm.findClass RX7 = some m.cls := findClass_of_methodNamed B.named
  have hlocks := B.notSynchronized
  have hS : va_S (g_bA 7 x) s.heap s.heap [] := va_S.rf
  have hl := lv_entry ([.ref (x 0)]) (n := 2) (Nat.le_of_ble_eq_true rfl)
  rw [lg_entry_eq]
  generalize (lg_sl ([.ref (x 0)]) ++ List.replicate (2 - (lg_sl ([.ref (x 0)])).length) Slot.unset).toArray = ls at hl ⊢
  have hl : lv_has ls 2 [(0, .ref (x 0))] := hl
  obtain ⟨F, hF⟩ : ∃ F, f_X7_next u = F := ⟨_, rfl⟩
  rw [hF]
  refine lv_aload_n hx hb dX7_next_0 rfl (lv_at hl 0 rfl) ?_
  refine lv_aload_n hx hb dX7_next_1 rfl (lv_at hl 0 rfl) ?_
  refine ge_X7_s hx hb hg hown kf_X7_13 hK hP dX7_next_2 ?_
  refine lv_bipush (v := 18) hx hb dX7_next_5 (by decide) ?_
  refine mlc_s 18 (by decide) hx hb hK hP dX7_next_7 ?_
  obtain ⟨c1, hok⟩ := hok
  refine g_Vi hx hb hml hown hg (c_X7_m l dC dI cI cZ x hi _ _ c1) cs_X7_47 rfl rfl ⟨Nat.le_of_ble_eq_true rfl, Nat.le_of_ble_eq_true rfl⟩ hK hP hS (q0 := 0) rfl rfl rfl hl.1 rfl (Nat.le_of_ble_eq_true rfl) dX7_next_8 ⟨Nat.zero_le _, Nat.zero_le _⟩ (fun H locs hP hS => ?_)
  refine lv_istore_n hx hb dX7_next_11 rfl hl (by decide) rfl (fun ls hl => ?_)
  have hl : lv_has ls 2 [(1, _), (0, _)] := hl
  refine lv_aload_n hx hb dX7_next_12 rfl (lv_at hl 1 rfl) ?_
  refine lv_aload_n hx hb dX7_next_13 rfl (lv_at hl 1 rfl) ?_
  refine ge_X7_s hx hb hg hown kf_X7_13 hK hP dX7_next_14 ?_
  refine lv_bipush (v := 18) hx hb dX7_next_17 (by decide) ?_
  refine mlc_s 18 (by decide) hx hb hK hP dX7_next_19 ?_
  refine lv_iconst (v := 1) hx hb dX7_next_20 (by decide) ?_
  obtain ⟨c2, hok⟩ := hok
  refine g_Vv hx hb hml hown hg (c_X7_grow l dC dI cI cZ x hi _ _ _ c2) cs_X7_50 rfl rfl ⟨Nat.le_of_ble_eq_true rfl, Nat.le_of_ble_eq_true rfl⟩ hK hP hS (q0 := 0) rfl rfl rfl hl.1 rfl (Nat.le_of_ble_eq_true rfl) dX7_next_21 ⟨Nat.zero_le _, Nat.zero_le _⟩ (fun H locs hP hS => ?_)
  refine lv_iload_n hx hb dX7_next_24 rfl (lv_at hl 0 rfl) ?_
  have hF : (_, _) = F := hF
  exact g_iret hx hb hr hlocks hP hS dX7_next_25 (g_p1 hF) (g_p2 hF)
def f_X7_low (u : MS) (p0 : Int32) (p1 : Int32) : MS :=
  let u1 : MS := ms_s u (upd (mq_s u) (p0).toNatClampNeg (((mq_s u (p0).toNatClampNeg) &&& 65280) ||| p1))
  u1
def ok_X7_low (u : MS) (p0 : Int32) (p1 : Int32) : Prop :=
  vp_in p0 24 ∧
  vp_in p0 24 ∧
  let u1 : MS := ms_s u (upd (mq_s u) (p0).toNatClampNeg (((mq_s u (p0).toNatClampNeg) &&& 65280) ||| p1))
  True
set_option maxHeartbeats 4000000 in
set_option maxRecDepth 100000 in
theorem c_X7_low (l : Launch) (dC : Nat → ClassId) (dI : Nat → Nat → Nat) (cI cZ : ClassId) (x : Nat → Nat) (hi : g_inj 7 x) (u : MS) (p0 : Int32) (p1 : Int32) (hok : ok_X7_low u p0 p1) : g_Mv l yX7_low (.code yX7_low cX7_low 3 none) { frames := 0, cells := 0, slots := 0, locals := 0 } (dC, dI) vwCl (tysW cI cZ) (wM x cI cZ) (g_bA 7 x) u [.ref (x 0), .int p0, .int p1] (f_X7_low u p0 p1) := by
  refine Met.ofW (cc := cX7_low) (maxL := 3) (ret := none) (by decide) rfl ?_
  intro p e s m args below meth c s₁ B hml hv
  obtain ⟨rfl, hP, hK⟩ := hv
  have hx := B.exec
  have hb := B.bytes
  have hr := B.returns
  have hts := atoms_spec (ws := .code yX7_low cX7_low 3 none :: gtbl) B.pre
  have hg : ∀ w ∈ gtbl, w.before _ s = true := fun w h => hts w (List.mem_cons_of_mem _ h)
  have hown : s.vm.findClass RX7 = some m.cls := findClass_of_methodNamed B.named
  have hlocks := B.notSynchronized
  have hS : va_S (g_bA 7 x) s.heap s.heap [] := va_S.rf
  have hl := lv_entry ([.ref (x 0), .int p0, .int p1]) (n := 3) (Nat.le_of_ble_eq_true rfl)
  rw [lg_entry_eq]
  generalize (lg_sl ([.ref (x 0), .int p0, .int p1]) ++ List.replicate (3 - (lg_sl ([.ref (x 0), .int p0, .int p1])).length) Slot.unset).toArray = ls at hl ⊢
  have hl : lv_has ls 3 [(0, .ref (x 0)), (1, .int p0), (2, .int p1)] := hl
  obtain ⟨F, hF⟩ : ∃ F, f_X7_low u p0 p1 = F := ⟨_, rfl⟩
  rw [hF]
  refine lv_aload_n hx hb dX7_low_0 rfl (lv_at hl 0 rfl) ?_
  refine ge_X7_s hx hb hg hown kf_X7_13 hK hP dX7_low_1 ?_
  refine lv_iload_n hx hb dX7_low_4 rfl (lv_at hl 1 rfl) ?_
  refine lv_aload_n hx hb dX7_low_5 rfl (lv_at hl 0 rfl) ?_
  refine ge_X7_s hx hb hg hown kf_X7_13 hK hP dX7_low_6 ?_
  refine lv_iload_n hx hb dX7_low_9 rfl (lv_at hl 1 rfl) ?_
  obtain ⟨c1, hok⟩ := hok
  refine ml_s hx hb hK hP c1 dX7_low_10 ?_
  refine lv_ldc (v := 65280) hx hb hown (hg _ kd_X7_54) dX7_low_11 ?_
  refine lv_iand hx hb dX7_low_13 ?_
  refine lv_iload_n hx hb dX7_low_14 rfl (lv_at hl 2 rfl) ?_
  refine lv_ior hx hb dX7_low_15 ?_
  obtain ⟨c2, hok⟩ := hok
  refine ma_s hi hx hb hK hP hS c2 dX7_low_16 (fun H locs hP hS => ?_)
  exact g_vret hx hb hr hlocks hP hS dX7_low_17 hF
def f_X7_sum (u : MS) (p0 : Int32) (p1 : Int32) : MS :=
  let u1 : MS := ms_s u (upd (mq_s u) 16 ((p0 + p1) &&& 255))
  let u2 : MS := ms_s u1 (upd (mq_s u1) 17 ((p0 + p1) >>> ((8 : Int32) &&& 31)))
  u2
set_option maxHeartbeats 4000000 in
set_option maxRecDepth 100000 in
theorem c_X7_sum (l : Launch) (dC : Nat → ClassId) (dI : Nat → Nat → Nat) (cI cZ : ClassId) (x : Nat → Nat) (hi : g_inj 7 x) (u : MS) (p0 : Int32) (p1 : Int32) : g_Mv l yX7_sum (.code yX7_sum cX7_sum 3 none) { frames := 0, cells := 0, slots := 0, locals := 0 } (dC, dI) vwCl (tysW cI cZ) (wM x cI cZ) (g_bA 7 x) u [.ref (x 0), .int p0, .int p1] (f_X7_sum u p0 p1) := by
  refine Met.ofW (cc := cX7_sum) (maxL := 3) (ret := none) (by decide) rfl ?_
  intro p e s m args below meth c s₁ B hml hv
  obtain ⟨rfl, hP, hK⟩ := hv
  have hx := B.exec
  have hb := B.bytes
  have hr := B.returns
  have hts := atoms_spec (ws := .code yX7_sum cX7_sum 3 none :: gtbl) B.pre
  have hg : ∀ w ∈ gtbl, w.before _ s = true := fun w h => hts w (List.mem_cons_of_mem _ h)
  have hown : s.vm.findClass RX7 = some m.cls := findClass_of_methodNamed B.named
  have hlocks := B.notSynchronized
  have hS : va_S (g_bA 7 x) s.heap s.heap [] := va_S.rf
  have hl := lv_entry ([.ref (x 0), .int p0, .int p1]) (n := 3) (Nat.le_of_ble_eq_true rfl)
  rw [lg_entry_eq]
  generalize (lg_sl ([.ref (x 0), .int p0, .int p1]) ++ List.replicate (3 - (lg_sl ([.ref (x 0), .int p0, .int p1])).length) Slot.unset).toArray = ls at hl ⊢
  have hl : lv_has ls 3 [(0, .ref (x 0)), (1, .int p0), (2, .int p1)] := hl
  obtain ⟨F, hF⟩ : ∃ F, f_X7_sum u p0 p1 = F := ⟨_, rfl⟩
  rw [hF]
  refine lv_aload_n hx hb dX7_sum_0 rfl (lv_at hl 0 rfl) ?_
  refine ge_X7_s hx hb hg hown kf_X7_13 hK hP dX7_sum_1 ?_
  refine lv_bipush (v := 16) hx hb dX7_sum_4 (by decide) ?_
  refine lv_iload_n hx hb dX7_sum_6 rfl (lv_at hl 1 rfl) ?_
  refine lv_iload_n hx hb dX7_sum_7 rfl (lv_at hl 2 rfl) ?_
  refine lv_iadd hx hb dX7_sum_8 ?_
  refine lv_sipush (v := 255) hx hb dX7_sum_9 (by decide) ?_
  refine lv_iand hx hb dX7_sum_12 ?_
  refine mac_s 16 (by decide) hi hx hb hK hP hS dX7_sum_13 (fun H locs hP hS => ?_)
  refine lv_aload_n hx hb dX7_sum_14 rfl (lv_at hl 0 rfl) ?_
  refine ge_X7_s hx hb hg hown kf_X7_13 hK hP dX7_sum_15 ?_
  refine lv_bipush (v := 17) hx hb dX7_sum_18 (by decide) ?_
  refine lv_iload_n hx hb dX7_sum_20 rfl (lv_at hl 1 rfl) ?_
  refine lv_iload_n hx hb dX7_sum_21 rfl (lv_at hl 2 rfl) ?_
  refine lv_iadd hx hb dX7_sum_22 ?_
  refine lv_bipush (v := 8) hx hb dX7_sum_23 (by decide) ?_
  refine lv_ishr hx hb dX7_sum_25 ?_
  refine mac_s 17 (by decide) hi hx hb hK hP hS dX7_sum_26 (fun H locs hP hS => ?_)
  exact g_vret hx hb hr hlocks hP hS dX7_sum_27 hF
def f_X7_sumOn (u : MS) (p0 : Int32) : MS :=
  let t1 : Int32 := ((p0 + (mq_s u 16)) + (mq_s u 17))
  let u2 : MS := ms_s u (upd (mq_s u) 16 (t1 &&& 255))
  let u3 : MS := ms_s u2 (upd (mq_s u2) 17 (t1 >>> ((8 : Int32) &&& 31)))
  u3
set_option maxHeartbeats 4000000 in
set_option maxRecDepth 100000 in
theorem c_X7_sumOn (l : Launch) (dC : Nat → ClassId) (dI : Nat → Nat → Nat) (cI cZ : ClassId) (x : Nat → Nat) (hi : g_inj 7 x) (u : MS) (p0 : Int32) : g_Mv l yX7_sumOn (.code yX7_sumOn cX7_sumOn 3 none) { frames := 0, cells := 0, slots := 0, locals := 0 } (dC, dI) vwCl (tysW cI cZ) (wM x cI cZ) (g_bA 7 x) u [.ref (x 0), .int p0] (f_X7_sumOn u p0) := by
  refine Met.ofW (cc := cX7_sumOn) (maxL := 3) (ret := none) (by decide) rfl ?_
  intro p e s m args below meth c s₁ B hml hv
  obtain ⟨rfl, hP, hK⟩ := hv
  have hx := B.exec
  have hb := B.bytes
  have hr := B.returns
  have hts := atoms_spec (ws := .code yX7_sumOn cX7_sumOn 3 none :: gtbl) B.pre
  have hg : ∀ w ∈ gtbl, w.before _ s = true := fun w h => hts w (List.mem_cons_of_mem _ h)
  have hown : s.vm.findClass RX7 = some m.cls := findClass_of_methodNamed B.named
  have hlocks := B.notSynchronized
  have hS : va_S (g_bA 7 x) s.heap s.heap [] := va_S.rf
  have hl := lv_entry ([.ref (x 0), .int p0]) (n := 3) (Nat.le_of_ble_eq_true rfl)
  rw [lg_entry_eq]
  generalize (lg_sl ([.ref (x 0), .int p0]) ++ List.replicate (3 - (lg_sl ([.ref (x 0), .int p0])).length) Slot.unset).toArray = ls at hl ⊢
  have hl : lv_has ls 3 [(0, .ref (x 0)), (1, .int p0)] := hl
  obtain ⟨F, hF⟩ : ∃ F, f_X7_sumOn u p0 = F := ⟨_, rfl⟩
  rw [hF]
  refine lv_iload_n hx hb dX7_sumOn_0 rfl (lv_at hl 1 rfl) ?_
  refine lv_aload_n hx hb dX7_sumOn_1 rfl (lv_at hl 0 rfl) ?_
  refine ge_X7_s hx hb hg hown kf_X7_13 hK hP dX7_sumOn_2 ?_
  refine lv_bipush (v := 16) hx hb dX7_sumOn_5 (by decide) ?_
  refine mlc_s 16 (by decide) hx hb hK hP dX7_sumOn_7 ?_
  refine lv_iadd hx hb dX7_sumOn_8 ?_
  refine lv_aload_n hx hb dX7_sumOn_9 rfl (lv_at hl 0 rfl) ?_
  refine ge_X7_s hx hb hg hown kf_X7_13 hK hP dX7_sumOn_10 ?_
  refine lv_bipush (v := 17) hx hb dX7_sumOn_13 (by decide) ?_
  refine mlc_s 17 (by decide) hx hb hK hP dX7_sumOn_15 ?_
  refine lv_iadd hx hb dX7_sumOn_16 ?_
  refine lv_istore_n hx hb dX7_sumOn_17 rfl hl (by decide) rfl (fun ls hl => ?_)
  have hl : lv_has ls 3 [(2, _), (0, _), (1, _)] := hl
  refine lv_aload_n hx hb dX7_sumOn_18 rfl (lv_at hl 1 rfl) ?_
  refine ge_X7_s hx hb hg hown kf_X7_13 hK hP dX7_sumOn_19 ?_
  refine lv_bipush (v := 16) hx hb dX7_sumOn_22 (by decide) ?_
  refine lv_iload_n hx hb dX7_sumOn_24 rfl (lv_at hl 0 rfl) ?_
  refine lv_sipush (v := 255) hx hb dX7_sumOn_25 (by decide) ?_
  refine lv_iand hx hb dX7_sumOn_28 ?_
  refine mac_s 16 (by decide) hi hx hb hK hP hS dX7_sumOn_29 (fun H locs hP hS => ?_)
  refine lv_aload_n hx hb dX7_sumOn_30 rfl (lv_at hl 1 rfl) ?_
  refine ge_X7_s hx hb hg hown kf_X7_13 hK hP dX7_sumOn_31 ?_
  refine lv_bipush (v := 17) hx hb dX7_sumOn_34 (by decide) ?_
  refine lv_iload_n hx hb dX7_sumOn_36 rfl (lv_at hl 0 rfl) ?_
  refine lv_bipush (v := 8) hx hb dX7_sumOn_37 (by decide) ?_
  refine lv_ishr hx hb dX7_sumOn_39 ?_
  refine mac_s 17 (by decide) hi hx hb hK hP hS dX7_sumOn_40 (fun H locs hP hS => ?_)
  exact g_vret hx hb hr hlocks hP hS dX7_sumOn_41 hF
def f_X7_less (u : MS) (p0 : Int32) (p1 : Int32) (p2 : Int32) : MS :=
  let t1 : Int32 := ((p0 - p1) - p2)
  let u2 : MS := ms_s u (upd (mq_s u) 16 (t1 &&& 255))
  if 0 ≤ t1 then
    let u3 : MS := ms_s u2 (upd (mq_s u2) 17 1)
    u3
  else
    let u4 : MS := ms_s u2 (upd (mq_s u2) 17 0)
    u4
set_option maxHeartbeats 4000000 in
set_option maxRecDepth 100000 in
theorem c_X7_less (l : Launch) (dC : Nat → ClassId) (dI : Nat → Nat → Nat) (cI cZ : ClassId) (x : Nat → Nat) (hi : g_inj 7 x) (u : MS) (p0 : Int32) (p1 : Int32) (p2 : Int32) : g_Mv l yX7_less (.code yX7_less cX7_less 5 none) { frames := 0, cells := 0, slots := 0, locals := 0 } (dC, dI) vwCl (tysW cI cZ) (wM x cI cZ) (g_bA 7 x) u [.ref (x 0), .int p0, .int p1, .int p2] (f_X7_less u p0 p1 p2) := by
  refine Met.ofW (cc := cX7_less) (maxL := 5) (ret := none) (by decide) rfl ?_
  intro p e s m args below meth c s₁ B hml hv
  obtain ⟨rfl, hP, hK⟩ := hv
  have hx := B.exec
  have hb := B.bytes
  have hr := B.returns
  have hts := atoms_spec (ws := .code yX7_less cX7_less 5 none :: gtbl) B.pre
  have hg : ∀ w ∈ gtbl, w.before _ s = true := fun w h => hts w (List.mem_cons_of_mem _ h)
  have hown : s.vm.findClass RX7 = some m.cls := findClass_of_methodNamed B.named
  have hlocks := B.notSynchronized
  have hS : va_S (g_bA 7 x) s.heap s.heap [] := va_S.rf
  have hl := lv_entry ([.ref (x 0), .int p0, .int p1, .int p2]) (n := 5) (Nat.le_of_ble_eq_true rfl)
  rw [lg_entry_eq]
  generalize (lg_sl ([.ref (x 0), .int p0, .int p1, .int p2]) ++ List.replicate (5 - (lg_sl ([.ref (x 0), .int p0, .int p1, .int p2])).length) Slot.unset).toArray = ls at hl ⊢
  have hl : lv_has ls 5 [(0, .ref (x 0)), (1, .int p0), (2, .int p1), (3, .int p2)] := hl
  obtain ⟨F, hF⟩ : ∃ F, f_X7_less u p0 p1 p2 = F := ⟨_, rfl⟩
  rw [hF]
  refine lv_iload_n hx hb dX7_less_0 rfl (lv_at hl 1 rfl) ?_
  refine lv_iload_n hx hb dX7_less_1 rfl (lv_at hl 2 rfl) ?_
  refine lv_isub hx hb dX7_less_2 ?_
  refine lv_iload_n hx hb dX7_less_3 rfl (lv_at hl 3 rfl) ?_
  refine lv_isub hx hb dX7_less_4 ?_
  refine lv_istore hx hb dX7_less_5 hl (by decide) rfl (fun ls hl => ?_)
  have hl : lv_has ls 5 [(4, _), (0, _), (1, _), (2, _), (3, _)] := hl
  refine lv_aload_n hx hb dX7_less_7 rfl (lv_at hl 1 rfl) ?_
  refine ge_X7_s hx hb hg hown kf_X7_13 hK hP dX7_less_8 ?_
  refine lv_bipush (v := 16) hx hb dX7_less_11 (by decide) ?_
  refine lv_iload hx hb dX7_less_13 (lv_at hl 0 rfl) ?_
  refine lv_sipush (v := 255) hx hb dX7_less_15 (by decide) ?_
  refine lv_iand hx hb dX7_less_18 ?_
  refine mac_s 16 (by decide) hi hx hb hK hP hS dX7_less_19 (fun H locs hP hS => ?_)
  refine lv_aload_n hx hb dX7_less_20 rfl (lv_at hl 1 rfl) ?_
  refine ge_X7_s hx hb hg hown kf_X7_13 hK hP dX7_less_21 ?_
  refine lv_bipush (v := 17) hx hb dX7_less_24 (by decide) ?_
  refine lv_iload hx hb dX7_less_26 (lv_at hl 0 rfl) ?_
  refine lv_if_ge (tgt := 35) hx hb dX7_less_28 (by decide) (fun c1 => ?_) (fun c1 => ?_)
  · have hF := (if_pos c1).symm.trans hF
    refine lv_iconst (v := 1) hx hb dX7_less_35 (by decide) ?_
    refine mac_s 17 (by decide) hi hx hb hK hP hS dX7_less_36 (fun H locs hP hS => ?_)
    exact g_vret hx hb hr hlocks hP hS dX7_less_37 hF
  · have hF := (if_neg c1).symm.trans hF
    refine lv_iconst (v := 0) hx hb dX7_less_31 (by decide) ?_
    refine lv_goto (tgt := 36) hx hb dX7_less_32 (by decide) ?_
    refine mac_s 17 (by decide) hi hx hb hK hP hS dX7_less_36 (fun H locs hP hS => ?_)
    exact g_vret hx hb hr hlocks hP hS dX7_less_37 hF
def f_X7_right (u : MS) (p0 : Int32) : MS :=
  let t1 : Int32 := ((mq_s u 16) &&& 1)
  let u2 : MS := ms_s u (upd (mq_s u) 16 (((mq_s u 16) >>> ((1 : Int32) &&& 31)) ||| (p0 <<< ((7 : Int32) &&& 31))))
  let u3 : MS := ms_s u2 (upd (mq_s u2) 17 t1)
  u3
set_option maxHeartbeats 4000000 in
set_option maxRecDepth 100000 in
theorem c_X7_right (l : Launch) (dC : Nat → ClassId) (dI : Nat → Nat → Nat) (cI cZ : ClassId) (x : Nat → Nat) (hi : g_inj 7 x) (u : MS) (p0 : Int32) : g_Mv l yX7_right (.code yX7_right cX7_right 3 none) { frames := 0, cells := 0, slots := 0, locals := 0 } (dC, dI) vwCl (tysW cI cZ) (wM x cI cZ) (g_bA 7 x) u [.ref (x 0), .int p0] (f_X7_right u p0) := by
  refine Met.ofW (cc := cX7_right) (maxL := 3) (ret := none) (by decide) rfl ?_
  intro p e s m args below meth c s₁ B hml hv
  obtain ⟨rfl, hP, hK⟩ := hv
  have hx := B.exec
  have hb := B.bytes
  have hr := B.returns
  have hts := atoms_spec (ws := .code yX7_right cX7_right 3 none :: gtbl) B.pre
  have hg : ∀ w ∈ gtbl, w.before _ s = true := fun w h => hts w (List.mem_cons_of_mem _ h)
  have hown : s.vm.findClass RX7 = some m.cls := findClass_of_methodNamed B.named
  have hlocks := B.notSynchronized
  have hS : va_S (g_bA 7 x) s.heap s.heap [] := va_S.rf
  have hl := lv_entry ([.ref (x 0), .int p0]) (n := 3) (Nat.le_of_ble_eq_true rfl)
  rw [lg_entry_eq]
  generalize (lg_sl ([.ref (x 0), .int p0]) ++ List.replicate (3 - (lg_sl ([.ref (x 0), .int p0])).length) Slot.unset).toArray = ls at hl ⊢
  have hl : lv_has ls 3 [(0, .ref (x 0)), (1, .int p0)] := hl
  obtain ⟨F, hF⟩ : ∃ F, f_X7_right u p0 = F := ⟨_, rfl⟩
  rw [hF]
  refine lv_aload_n hx hb dX7_right_0 rfl (lv_at hl 0 rfl) ?_
  refine ge_X7_s hx hb hg hown kf_X7_13 hK hP dX7_right_1 ?_
  refine lv_bipush (v := 16) hx hb dX7_right_4 (by decide) ?_
  refine mlc_s 16 (by decide) hx hb hK hP dX7_right_6 ?_
  refine lv_iconst (v := 1) hx hb dX7_right_7 (by decide) ?_
  refine lv_iand hx hb dX7_right_8 ?_
  refine lv_istore_n hx hb dX7_right_9 rfl hl (by decide) rfl (fun ls hl => ?_)
  have hl : lv_has ls 3 [(2, _), (0, _), (1, _)] := hl
  refine lv_aload_n hx hb dX7_right_10 rfl (lv_at hl 1 rfl) ?_
  refine ge_X7_s hx hb hg hown kf_X7_13 hK hP dX7_right_11 ?_
  refine lv_bipush (v := 16) hx hb dX7_right_14 (by decide) ?_
  refine lv_aload_n hx hb dX7_right_16 rfl (lv_at hl 1 rfl) ?_
  refine ge_X7_s hx hb hg hown kf_X7_13 hK hP dX7_right_17 ?_
  refine lv_bipush (v := 16) hx hb dX7_right_20 (by decide) ?_
  refine mlc_s 16 (by decide) hx hb hK hP dX7_right_22 ?_
  refine lv_iconst (v := 1) hx hb dX7_right_23 (by decide) ?_
  refine lv_ishr hx hb dX7_right_24 ?_
  refine lv_iload_n hx hb dX7_right_25 rfl (lv_at hl 2 rfl) ?_
  refine lv_bipush (v := 7) hx hb dX7_right_26 (by decide) ?_
  refine lv_ishl hx hb dX7_right_28 ?_
  refine lv_ior hx hb dX7_right_29 ?_
  refine mac_s 16 (by decide) hi hx hb hK hP hS dX7_right_30 (fun H locs hP hS => ?_)
  refine lv_aload_n hx hb dX7_right_31 rfl (lv_at hl 1 rfl) ?_
  refine ge_X7_s hx hb hg hown kf_X7_13 hK hP dX7_right_32 ?_
  refine lv_bipush (v := 17) hx hb dX7_right_35 (by decide) ?_
  refine lv_iload_n hx hb dX7_right_37 rfl (lv_at hl 0 rfl) ?_
  refine mac_s 17 (by decide) hi hx hb hK hP hS dX7_right_38 (fun H locs hP hS => ?_)
  exact g_vret hx hb hr hlocks hP hS dX7_right_39 hF
def f_X7_left (u : MS) (p0 : Int32) : MS :=
  let t1 : Int32 := (((mq_s u 16) <<< ((1 : Int32) &&& 31)) ||| p0)
  let u2 : MS := ms_s u (upd (mq_s u) 16 (t1 &&& 255))
  let u3 : MS := ms_s u2 (upd (mq_s u2) 17 (t1 >>> ((8 : Int32) &&& 31)))
  u3
set_option maxHeartbeats 4000000 in
set_option maxRecDepth 100000 in
theorem c_X7_left (l : Launch) (dC : Nat → ClassId) (dI : Nat → Nat → Nat) (cI cZ : ClassId) (x : Nat → Nat) (hi : g_inj 7 x) (u : MS) (p0 : Int32) : g_Mv l yX7_left (.code yX7_left cX7_left 3 none) { frames := 0, cells := 0, slots := 0, locals := 0 } (dC, dI) vwCl (tysW cI cZ) (wM x cI cZ) (g_bA 7 x) u [.ref (x 0), .int p0] (f_X7_left u p0) := by
  refine Met.ofW (cc := cX7_left) (maxL := 3) (ret := none) (by decide) rfl ?_
  intro p e s m args below meth c s₁ B hml hv
  obtain ⟨rfl, hP, hK⟩ := hv
  have hx := B.exec
  have hb := B.bytes
  have hr := B.returns
  have hts := atoms_spec (ws := .code yX7_left cX7_left 3 none :: gtbl) B.pre
  have hg : ∀ w ∈ gtbl, w.before _ s = true := fun w h => hts w (List.mem_cons_of_mem _ h)
  have hown : s.vm.findClass RX7 = some m.cls := findClass_of_methodNamed B.named
  have hlocks := B.notSynchronized
  have hS : va_S (g_bA 7 x) s.heap s.heap [] := va_S.rf
  have hl := lv_entry ([.ref (x 0), .int p0]) (n := 3) (Nat.le_of_ble_eq_true rfl)
  rw [lg_entry_eq]
  generalize (lg_sl ([.ref (x 0), .int p0]) ++ List.replicate (3 - (lg_sl ([.ref (x 0), .int p0])).length) Slot.unset).toArray = ls at hl ⊢
  have hl : lv_has ls 3 [(0, .ref (x 0)), (1, .int p0)] := hl
  obtain ⟨F, hF⟩ : ∃ F, f_X7_left u p0 = F := ⟨_, rfl⟩
  rw [hF]
  refine lv_aload_n hx hb dX7_left_0 rfl (lv_at hl 0 rfl) ?_
  refine ge_X7_s hx hb hg hown kf_X7_13 hK hP dX7_left_1 ?_
  refine lv_bipush (v := 16) hx hb dX7_left_4 (by decide) ?_
  refine mlc_s 16 (by decide) hx hb hK hP dX7_left_6 ?_
  refine lv_iconst (v := 1) hx hb dX7_left_7 (by decide) ?_
  refine lv_ishl hx hb dX7_left_8 ?_
  refine lv_iload_n hx hb dX7_left_9 rfl (lv_at hl 1 rfl) ?_
  refine lv_ior hx hb dX7_left_10 ?_
  refine lv_istore_n hx hb dX7_left_11 rfl hl (by decide) rfl (fun ls hl => ?_)
  have hl : lv_has ls 3 [(2, _), (0, _), (1, _)] := hl
  refine lv_aload_n hx hb dX7_left_12 rfl (lv_at hl 1 rfl) ?_
  refine ge_X7_s hx hb hg hown kf_X7_13 hK hP dX7_left_13 ?_
  refine lv_bipush (v := 16) hx hb dX7_left_16 (by decide) ?_
  refine lv_iload_n hx hb dX7_left_18 rfl (lv_at hl 0 rfl) ?_
  refine lv_sipush (v := 255) hx hb dX7_left_19 (by decide) ?_
  refine lv_iand hx hb dX7_left_22 ?_
  refine mac_s 16 (by decide) hi hx hb hK hP hS dX7_left_23 (fun H locs hP hS => ?_)
  refine lv_aload_n hx hb dX7_left_24 rfl (lv_at hl 1 rfl) ?_
  refine ge_X7_s hx hb hg hown kf_X7_13 hK hP dX7_left_25 ?_
  refine lv_bipush (v := 17) hx hb dX7_left_28 (by decide) ?_
  refine lv_iload_n hx hb dX7_left_30 rfl (lv_at hl 0 rfl) ?_
  refine lv_bipush (v := 8) hx hb dX7_left_31 (by decide) ?_
  refine lv_ishr hx hb dX7_left_33 ?_
  refine mac_s 17 (by decide) hi hx hb hK hP hS dX7_left_34 (fun H locs hP hS => ?_)
  exact g_vret hx hb hr hlocks hP hS dX7_left_35 hF
def f_X7_isLight (u : MS) : Int32 :=
  if (mq_on u) = 0 then
    0
  else
    if (mq_line u) < 60 then
      if (mq_line u) < 188 then
        0
      else
        if 192 ≤ (mq_line u) then
          0
        else
          1
    else
      if (mq_line u) < 64 then
        1
      else
        if (mq_line u) < 188 then
          0
        else
          if 192 ≤ (mq_line u) then
            0
          else
            1
set_option maxHeartbeats 4000000 in
set_option maxRecDepth 100000 in
theorem c_X7_isLight (l : Launch) (dC : Nat → ClassId) (dI : Nat → Nat → Nat) (cI cZ : ClassId) (x : Nat → Nat) (hi : g_inj 7 x) (u : MS) : g_Mi l yX7_isLight (.code yX7_isLight cX7_isLight 1 (some .boolean)) { frames := 0, cells := 0, slots := 0, locals := 0 } (dC, dI) vwCl (tysW cI cZ) (wM x cI cZ) (g_bA 7 x) u [.ref (x 0)] (f_X7_isLight u) u := by
  refine Met.ofW (cc := cX7_isLight) (maxL := 1) (ret := (some .boolean)) (by decide) rfl ?_
  intro p e s m args below meth c s₁ B hml hv
  obtain ⟨rfl, hP, hK⟩ := hv
  have hx := B.exec
  have hb := B.bytes
  have hr := B.returns
  have hts := atoms_spec (ws := .code yX7_isLight cX7_isLight 1 (some .boolean) :: gtbl) B.pre
  have hg : ∀ w ∈ gtbl, w.before _ s = true := fun w h => hts w (List.mem_cons_of_mem _ h)
  have hown : s.vm.findClass RX7 = some m.cls := findClass_of_methodNamed B.named
  have hlocks := B.notSynchronized
  have hS : va_S (g_bA 7 x) s.heap s.heap [] := va_S.rf
  have hl := lv_entry ([.ref (x 0)]) (n := 1) (Nat.le_of_ble_eq_true rfl)
  rw [lg_entry_eq]
  generalize (lg_sl ([.ref (x 0)]) ++ List.replicate (1 - (lg_sl ([.ref (x 0)])).length) Slot.unset).toArray = ls at hl ⊢
  have hl : lv_has ls 1 [(0, .ref (x 0))] := hl
  obtain ⟨F, hF⟩ : ∃ F, f_X7_isLight u = F := ⟨_, rfl⟩
  rw [hF]
  refine lv_aload_n hx hb dX7_isLight_0 rfl (lv_at hl 0 rfl) ?_
  refine ge_X7_on hx hb hg hown kf_X7_55 hK hP dX7_isLight_1 ?_
  refine lv_if_eq (tgt := 49) hx hb dX7_isLight_4 (by decide) (fun c1 => ?_) (fun c1 => ?_)
  · have hF := (if_pos c1).symm.trans hF
    refine lv_iconst (v := 0) hx hb dX7_isLight_49 (by decide) ?_
    exact g_zret hx hb hr hlocks hP hS dX7_isLight_50 rfl hF rfl
  · have hF := (if_neg c1).symm.trans hF
    refine lv_aload_n hx hb dX7_isLight_7 rfl (lv_at hl 0 rfl) ?_
    refine ge_X7_line hx hb hg hown kf_X7_59 hK hP dX7_isLight_8 ?_
    refine lv_bipush (v := 60) hx hb dX7_isLight_11 (by decide) ?_
    refine lv_icmp_lt (tgt := 25) hx hb dX7_isLight_13 (by decide) (fun c2 => ?_) (fun c2 => ?_)
    · have hF := (if_pos c2).symm.trans hF
      refine lv_aload_n hx hb dX7_isLight_25 rfl (lv_at hl 0 rfl) ?_
      refine ge_X7_line hx hb hg hown kf_X7_59 hK hP dX7_isLight_26 ?_
      refine lv_sipush (v := 188) hx hb dX7_isLight_29 (by decide) ?_
      refine lv_icmp_lt (tgt := 49) hx hb dX7_isLight_32 (by decide) (fun c3 => ?_) (fun c3 => ?_)
      · have hF := (if_pos c3).symm.trans hF
        refine lv_iconst (v := 0) hx hb dX7_isLight_49 (by decide) ?_
        exact g_zret hx hb hr hlocks hP hS dX7_isLight_50 rfl hF rfl
      · have hF := (if_neg c3).symm.trans hF
        refine lv_aload_n hx hb dX7_isLight_35 rfl (lv_at hl 0 rfl) ?_
        refine ge_X7_line hx hb hg hown kf_X7_59 hK hP dX7_isLight_36 ?_
        refine lv_sipush (v := 192) hx hb dX7_isLight_39 (by decide) ?_
        refine lv_icmp_ge (tgt := 49) hx hb dX7_isLight_42 (by decide) (fun c4 => ?_) (fun c4 => ?_)
        · have hF := (if_pos c4).symm.trans hF
          refine lv_iconst (v := 0) hx hb dX7_isLight_49 (by decide) ?_
          exact g_zret hx hb hr hlocks hP hS dX7_isLight_50 rfl hF rfl
        · have hF := (if_neg c4).symm.trans hF
          refine lv_iconst (v := 1) hx hb dX7_isLight_45 (by decide) ?_
          refine lv_goto (tgt := 50) hx hb dX7_isLight_46 (by decide) ?_
          exact g_zret hx hb hr hlocks hP hS dX7_isLight_50 rfl hF rfl
    · have hF := (if_neg c2).symm.trans hF
      refine lv_aload_n hx hb dX7_isLight_16 rfl (lv_at hl 0 rfl) ?_
      refine ge_X7_line hx hb hg hown kf_X7_59 hK hP dX7_isLight_17 ?_
      refine lv_bipush (v := 64) hx hb dX7_isLight_20 (by decide) ?_
      refine lv_icmp_lt (tgt := 45) hx hb dX7_isLight_22 (by decide) (fun c5 => ?_) (fun c5 => ?_)
      · have hF := (if_pos c5).symm.trans hF
        refine lv_iconst (v := 1) hx hb dX7_isLight_45 (by decide) ?_
        refine lv_goto (tgt := 50) hx hb dX7_isLight_46 (by decide) ?_
        exact g_zret hx hb hr hlocks hP hS dX7_isLight_50 rfl hF rfl
      · have hF := (if_neg c5).symm.trans hF
        refine lv_aload_n hx hb dX7_isLight_25 rfl (lv_at hl 0 rfl) ?_
        refine ge_X7_line hx hb hg hown kf_X7_59 hK hP dX7_isLight_26 ?_
        refine lv_sipush (v := 188) hx hb dX7_isLight_29 (by decide) ?_
        refine lv_icmp_lt (tgt := 49) hx hb dX7_isLight_32 (by decide) (fun c6 => ?_) (fun c6 => ?_)
        · have hF := (if_pos c6).symm.trans hF
          refine lv_iconst (v := 0) hx hb dX7_isLight_49 (by decide) ?_
          exact g_zret hx hb hr hlocks hP hS dX7_isLight_50 rfl hF rfl
        · have hF := (if_neg c6).symm.trans hF
          refine lv_aload_n hx hb dX7_isLight_35 rfl (lv_at hl 0 rfl) ?_
          refine ge_X7_line hx hb hg hown kf_X7_59 hK hP dX7_isLight_36 ?_
          refine lv_sipush (v := 192) hx hb dX7_isLight_39 (by decide) ?_
          refine lv_icmp_ge (tgt := 49) hx hb dX7_isLight_42 (by decide) (fun c7 => ?_) (fun c7 => ?_)
          · have hF := (if_pos c7).symm.trans hF
            refine lv_iconst (v := 0) hx hb dX7_isLight_49 (by decide) ?_
            exact g_zret hx hb hr hlocks hP hS dX7_isLight_50 rfl hF rfl
          · have hF := (if_neg c7).symm.trans hF
            refine lv_iconst (v := 1) hx hb dX7_isLight_45 (by decide) ?_
            refine lv_goto (tgt := 50) hx hb dX7_isLight_46 (by decide) ?_
            exact g_zret hx hb hr hlocks hP hS dX7_isLight_50 rfl hF rfl
def f_X7_isSo (u : MS) (p0 : Int32) : Int32 :=
  if (p0 &&& 7) = 0 then
    if p0 = 0 then
      1
    else
      0
  else
    if (p0 &&& 7) = 1 then
      if (mq_s u 22) = 1 then
        if 8 ≤ p0 then
          0
        else
          1
      else
        if 8 ≤ p0 then
          1
        else
          0
    else
      if (p0 &&& 7) = 2 then
        if (mq_s u 16) = 0 then
          if 8 ≤ p0 then
            0
          else
            1
        else
          if 8 ≤ p0 then
            1
          else
            0
      else
        if (p0 &&& 7) = 3 then
          if (mq_s u 17) = 1 then
            if 8 ≤ p0 then
              0
            else
              1
          else
            if 8 ≤ p0 then
              1
            else
              0
        else
          if (p0 &&& 7) = 4 then
            if 8 ≤ p0 then
              if (f_X7_isLight u) = 0 then
                1
              else
                0
            else
              if (f_X7_isLight u) = 1 then
                1
              else
                0
          else
            if (p0 &&& 7) = 6 then
              if 8 ≤ p0 then
                if (mq_down u ((mq_latch u)).toNatClampNeg) = 0 then
                  1
                else
                  0
              else
                if (mq_down u ((mq_latch u)).toNatClampNeg) = 1 then
                  1
                else
                  0
            else
              if p0 ≤ 8 then
                0
              else
                1
def ok_X7_isSo (u : MS) (p0 : Int32) : Prop :=
  if (p0 &&& 7) = 0 then
    if p0 = 0 then
      True
    else
      True
  else
    if (p0 &&& 7) = 1 then
      if (mq_s u 22) = 1 then
        if 8 ≤ p0 then
          True
        else
          True
      else
        if 8 ≤ p0 then
          True
        else
          True
    else
      if (p0 &&& 7) = 2 then
        if (mq_s u 16) = 0 then
          if 8 ≤ p0 then
            True
          else
            True
        else
          if 8 ≤ p0 then
            True
          else
            True
      else
        if (p0 &&& 7) = 3 then
          if (mq_s u 17) = 1 then
            if 8 ≤ p0 then
              True
            else
              True
          else
            if 8 ≤ p0 then
              True
            else
              True
        else
          if (p0 &&& 7) = 4 then
            if 8 ≤ p0 then
              if (f_X7_isLight u) = 0 then
                True
              else
                True
            else
              if (f_X7_isLight u) = 1 then
                True
              else
                True
          else
            if (p0 &&& 7) = 6 then
              vp_in (mq_latch u) 16 ∧
              if 8 ≤ p0 then
                if (mq_down u ((mq_latch u)).toNatClampNeg) = 0 then
                  True
                else
                  True
              else
                if (mq_down u ((mq_latch u)).toNatClampNeg) = 1 then
                  True
                else
                  True
            else
              if p0 ≤ 8 then
                True
              else
                True
set_option maxHeartbeats 4000000 in
set_option maxRecDepth 100000 in
theorem c_X7_isSo (l : Launch) (dC : Nat → ClassId) (dI : Nat → Nat → Nat) (cI cZ : ClassId) (x : Nat → Nat) (hi : g_inj 7 x) (u : MS) (p0 : Int32) (hok : ok_X7_isSo u p0) : g_Mi l yX7_isSo (.code yX7_isSo cX7_isSo 2 (some .boolean)) { frames := 1, cells := 0, slots := 0, locals := 20 } (dC, dI) vwCl (tysW cI cZ) (wM x cI cZ) (g_bA 7 x) u [.ref (x 0), .int p0] (f_X7_isSo u p0) u := by
  refine Met.ofW (cc := cX7_isSo) (maxL := 2) (ret := (some .boolean)) (by decide) rfl ?_
  intro p e s m args below meth c s₁ B hml hv
  obtain ⟨rfl, hP, hK⟩ := hv
  have hx := B.exec
  have hb := B.bytes
  have hr := B.returns
  have hts := atoms_spec (ws := .code yX7_isSo cX7_isSo 2 (some .boolean) :: gtbl) B.pre
  have hg : ∀ w ∈ gtbl, w.before _ s = true := fun w h => hts w (List.mem_cons_of_mem _ h)
  have hown : s.vm.findClass RX7 = some m.cls := findClass_of_methodNamed B.named
  have hlocks := B.notSynchronized
  have hS : va_S (g_bA 7 x) s.heap s.heap [] := va_S.rf
  have hl := lv_entry ([.ref (x 0), .int p0]) (n := 2) (Nat.le_of_ble_eq_true rfl)
  rw [lg_entry_eq]
  generalize (lg_sl ([.ref (x 0), .int p0]) ++ List.replicate (2 - (lg_sl ([.ref (x 0), .int p0])).length) Slot.unset).toArray = ls at hl ⊢
  have hl : lv_has ls 2 [(0, .ref (x 0)), (1, .int p0)] := hl
  obtain ⟨F, hF⟩ : ∃ F, f_X7_isSo u p0 = F := ⟨_, rfl⟩
  rw [hF]
  refine lv_iload_n hx hb dX7_isSo_0 rfl (lv_at hl 1 rfl) ?_
  refine lv_bipush (v := 7) hx hb dX7_isSo_1 (by decide) ?_
  refine lv_iand hx hb dX7_isSo_3 ?_
  refine sw_case (v := 0) (fun c1 => ?_) (fun c1 => ?_)
  · have hF := (if_pos c1).symm.trans hF
    have hok := Eq.mp (if_pos c1) hok
    refine sw_in (off := 44) (tgt := 48) 0 hx hb dX7_isSo_4 c1 (by decide) (by decide) ?_
    refine lv_iload_n hx hb dX7_isSo_48 rfl (lv_at hl 1 rfl) ?_
    refine lv_if_ne (tgt := 56) hx hb dX7_isSo_49 (by decide) (fun c2 => ?_) (fun c2 => ?_)
    · have hF := (if_neg c2).symm.trans hF
      have hok := Eq.mp (if_neg c2) hok
      refine lv_iconst (v := 0) hx hb dX7_isSo_56 (by decide) ?_
      exact g_zret hx hb hr hlocks hP hS dX7_isSo_57 rfl hF rfl
    · have hF := (if_pos c2).symm.trans hF
      have hok := Eq.mp (if_pos c2) hok
      refine lv_iconst (v := 1) hx hb dX7_isSo_52 (by decide) ?_
      refine lv_goto (tgt := 57) hx hb dX7_isSo_53 (by decide) ?_
      exact g_zret hx hb hr hlocks hP hS dX7_isSo_57 rfl hF rfl
  · have hF := (if_neg c1).symm.trans hF
    have hok := Eq.mp (if_neg c1) hok
    refine sw_case (v := 1) (fun c3 => ?_) (fun c3 => ?_)
    · have hF := (if_pos c3).symm.trans hF
      have hok := Eq.mp (if_pos c3) hok
      refine sw_in (off := 54) (tgt := 58) 1 hx hb dX7_isSo_4 c3 (by decide) (by decide) ?_
      refine lv_aload_n hx hb dX7_isSo_58 rfl (lv_at hl 0 rfl) ?_
      refine ge_X7_s hx hb hg hown kf_X7_13 hK hP dX7_isSo_59 ?_
      refine lv_bipush (v := 22) hx hb dX7_isSo_62 (by decide) ?_
      refine mlc_s 22 (by decide) hx hb hK hP dX7_isSo_64 ?_
      refine lv_iconst (v := 1) hx hb dX7_isSo_65 (by decide) ?_
      refine lv_icmp_ne (tgt := 73) hx hb dX7_isSo_66 (by decide) (fun c4 => ?_) (fun c4 => ?_)
      · have hF := (if_neg c4).symm.trans hF
        have hok := Eq.mp (if_neg c4) hok
        refine lv_iconst (v := 0) hx hb dX7_isSo_73 (by decide) ?_
        refine lv_iload_n hx hb dX7_isSo_74 rfl (lv_at hl 1 rfl) ?_
        refine lv_bipush (v := 8) hx hb dX7_isSo_75 (by decide) ?_
        refine lv_icmp_ge (tgt := 84) hx hb dX7_isSo_77 (by decide) (fun c8 => ?_) (fun c8 => ?_)
        · have hF := (if_pos c8).symm.trans hF
          have hok := Eq.mp (if_pos c8) hok
          refine lv_iconst (v := 0) hx hb dX7_isSo_84 (by decide) ?_
          refine lv_icmp_ne (tgt := 92) hx hb dX7_isSo_85 (by decide) (fun c9 => ?_) (fun c9 => ?_)
          · exact absurd c9 (by decide)
          · refine lv_iconst (v := 1) hx hb dX7_isSo_88 (by decide) ?_
            refine lv_goto (tgt := 93) hx hb dX7_isSo_89 (by decide) ?_
            exact g_zret hx hb hr hlocks hP hS dX7_isSo_93 rfl hF rfl
        · have hF := (if_neg c8).symm.trans hF
          have hok := Eq.mp (if_neg c8) hok
          refine lv_iconst (v := 1) hx hb dX7_isSo_80 (by decide) ?_
          refine lv_goto (tgt := 85) hx hb dX7_isSo_81 (by decide) ?_
          refine lv_icmp_ne (tgt := 92) hx hb dX7_isSo_85 (by decide) (fun c10 => ?_) (fun c10 => ?_)
          · refine lv_iconst (v := 0) hx hb dX7_isSo_92 (by decide) ?_
            exact g_zret hx hb hr hlocks hP hS dX7_isSo_93 rfl hF rfl
          · exact absurd c10 (by decide)
      · have hF := (if_pos c4).symm.trans hF
        have hok := Eq.mp (if_pos c4) hok
        refine lv_iconst (v := 1) hx hb dX7_isSo_69 (by decide) ?_
        refine lv_goto (tgt := 74) hx hb dX7_isSo_70 (by decide) ?_
        refine lv_iload_n hx hb dX7_isSo_74 rfl (lv_at hl 1 rfl) ?_
        refine lv_bipush (v := 8) hx hb dX7_isSo_75 (by decide) ?_
        refine lv_icmp_ge (tgt := 84) hx hb dX7_isSo_77 (by decide) (fun c5 => ?_) (fun c5 => ?_)
        · have hF := (if_pos c5).symm.trans hF
          have hok := Eq.mp (if_pos c5) hok
          refine lv_iconst (v := 0) hx hb dX7_isSo_84 (by decide) ?_
          refine lv_icmp_ne (tgt := 92) hx hb dX7_isSo_85 (by decide) (fun c6 => ?_) (fun c6 => ?_)
          · refine lv_iconst (v := 0) hx hb dX7_isSo_92 (by decide) ?_
            exact g_zret hx hb hr hlocks hP hS dX7_isSo_93 rfl hF rfl
          · exact absurd c6 (by decide)
        · have hF := (if_neg c5).symm.trans hF
          have hok := Eq.mp (if_neg c5) hok
          refine lv_iconst (v := 1) hx hb dX7_isSo_80 (by decide) ?_
          refine lv_goto (tgt := 85) hx hb dX7_isSo_81 (by decide) ?_
          refine lv_icmp_ne (tgt := 92) hx hb dX7_isSo_85 (by decide) (fun c7 => ?_) (fun c7 => ?_)
          · exact absurd c7 (by decide)
          · refine lv_iconst (v := 1) hx hb dX7_isSo_88 (by decide) ?_
            refine lv_goto (tgt := 93) hx hb dX7_isSo_89 (by decide) ?_
            exact g_zret hx hb hr hlocks hP hS dX7_isSo_93 rfl hF rfl
    · have hF := (if_neg c3).symm.trans hF
      have hok := Eq.mp (if_neg c3) hok
      refine sw_case (v := 2) (fun c11 => ?_) (fun c11 => ?_)
      · have hF := (if_pos c11).symm.trans hF
        have hok := Eq.mp (if_pos c11) hok
        refine sw_in (off := 90) (tgt := 94) 2 hx hb dX7_isSo_4 c11 (by decide) (by decide) ?_
        refine lv_aload_n hx hb dX7_isSo_94 rfl (lv_at hl 0 rfl) ?_
        refine ge_X7_s hx hb hg hown kf_X7_13 hK hP dX7_isSo_95 ?_
        refine lv_bipush (v := 16) hx hb dX7_isSo_98 (by decide) ?_
        refine mlc_s 16 (by decide) hx hb hK hP dX7_isSo_100 ?_
        refine lv_if_ne (tgt := 108) hx hb dX7_isSo_101 (by decide) (fun c12 => ?_) (fun c12 => ?_)
        · have hF := (if_neg c12).symm.trans hF
          have hok := Eq.mp (if_neg c12) hok
          refine lv_iconst (v := 0) hx hb dX7_isSo_108 (by decide) ?_
          refine lv_iload_n hx hb dX7_isSo_109 rfl (lv_at hl 1 rfl) ?_
          refine lv_bipush (v := 8) hx hb dX7_isSo_110 (by decide) ?_
          refine lv_icmp_ge (tgt := 119) hx hb dX7_isSo_112 (by decide) (fun c16 => ?_) (fun c16 => ?_)
          · have hF := (if_pos c16).symm.trans hF
            have hok := Eq.mp (if_pos c16) hok
            refine lv_iconst (v := 0) hx hb dX7_isSo_119 (by decide) ?_
            refine lv_icmp_ne (tgt := 127) hx hb dX7_isSo_120 (by decide) (fun c17 => ?_) (fun c17 => ?_)
            · exact absurd c17 (by decide)
            · refine lv_iconst (v := 1) hx hb dX7_isSo_123 (by decide) ?_
              refine lv_goto (tgt := 128) hx hb dX7_isSo_124 (by decide) ?_
              exact g_zret hx hb hr hlocks hP hS dX7_isSo_128 rfl hF rfl
          · have hF := (if_neg c16).symm.trans hF
            have hok := Eq.mp (if_neg c16) hok
            refine lv_iconst (v := 1) hx hb dX7_isSo_115 (by decide) ?_
            refine lv_goto (tgt := 120) hx hb dX7_isSo_116 (by decide) ?_
            refine lv_icmp_ne (tgt := 127) hx hb dX7_isSo_120 (by decide) (fun c18 => ?_) (fun c18 => ?_)
            · refine lv_iconst (v := 0) hx hb dX7_isSo_127 (by decide) ?_
              exact g_zret hx hb hr hlocks hP hS dX7_isSo_128 rfl hF rfl
            · exact absurd c18 (by decide)
        · have hF := (if_pos c12).symm.trans hF
          have hok := Eq.mp (if_pos c12) hok
          refine lv_iconst (v := 1) hx hb dX7_isSo_104 (by decide) ?_
          refine lv_goto (tgt := 109) hx hb dX7_isSo_105 (by decide) ?_
          refine lv_iload_n hx hb dX7_isSo_109 rfl (lv_at hl 1 rfl) ?_
          refine lv_bipush (v := 8) hx hb dX7_isSo_110 (by decide) ?_
          refine lv_icmp_ge (tgt := 119) hx hb dX7_isSo_112 (by decide) (fun c13 => ?_) (fun c13 => ?_)
          · have hF := (if_pos c13).symm.trans hF
            have hok := Eq.mp (if_pos c13) hok
            refine lv_iconst (v := 0) hx hb dX7_isSo_119 (by decide) ?_
            refine lv_icmp_ne (tgt := 127) hx hb dX7_isSo_120 (by decide) (fun c14 => ?_) (fun c14 => ?_)
            · refine lv_iconst (v := 0) hx hb dX7_isSo_127 (by decide) ?_
              exact g_zret hx hb hr hlocks hP hS dX7_isSo_128 rfl hF rfl
            · exact absurd c14 (by decide)
          · have hF := (if_neg c13).symm.trans hF
            have hok := Eq.mp (if_neg c13) hok
            refine lv_iconst (v := 1) hx hb dX7_isSo_115 (by decide) ?_
            refine lv_goto (tgt := 120) hx hb dX7_isSo_116 (by decide) ?_
            refine lv_icmp_ne (tgt := 127) hx hb dX7_isSo_120 (by decide) (fun c15 => ?_) (fun c15 => ?_)
            · exact absurd c15 (by decide)
            · refine lv_iconst (v := 1) hx hb dX7_isSo_123 (by decide) ?_
              refine lv_goto (tgt := 128) hx hb dX7_isSo_124 (by decide) ?_
              exact g_zret hx hb hr hlocks hP hS dX7_isSo_128 rfl hF rfl
      · have hF := (if_neg c11).symm.trans hF
        have hok := Eq.mp (if_neg c11) hok
        refine sw_case (v := 3) (fun c19 => ?_) (fun c19 => ?_)
        · have hF := (if_pos c19).symm.trans hF
          have hok := Eq.mp (if_pos c19) hok
          refine sw_in (off := 125) (tgt := 129) 3 hx hb dX7_isSo_4 c19 (by decide) (by decide) ?_
          refine lv_aload_n hx hb dX7_isSo_129 rfl (lv_at hl 0 rfl) ?_
          refine ge_X7_s hx hb hg hown kf_X7_13 hK hP dX7_isSo_130 ?_
          refine lv_bipush (v := 17) hx hb dX7_isSo_133 (by decide) ?_
          refine mlc_s 17 (by decide) hx hb hK hP dX7_isSo_135 ?_
          refine lv_iconst (v := 1) hx hb dX7_isSo_136 (by decide) ?_
          refine lv_icmp_ne (tgt := 144) hx hb dX7_isSo_137 (by decide) (fun c20 => ?_) (fun c20 => ?_)
          · have hF := (if_neg c20).symm.trans hF
            have hok := Eq.mp (if_neg c20) hok
            refine lv_iconst (v := 0) hx hb dX7_isSo_144 (by decide) ?_
            refine lv_iload_n hx hb dX7_isSo_145 rfl (lv_at hl 1 rfl) ?_
            refine lv_bipush (v := 8) hx hb dX7_isSo_146 (by decide) ?_
            refine lv_icmp_ge (tgt := 155) hx hb dX7_isSo_148 (by decide) (fun c24 => ?_) (fun c24 => ?_)
            · have hF := (if_pos c24).symm.trans hF
              have hok := Eq.mp (if_pos c24) hok
              refine lv_iconst (v := 0) hx hb dX7_isSo_155 (by decide) ?_
              refine lv_icmp_ne (tgt := 163) hx hb dX7_isSo_156 (by decide) (fun c25 => ?_) (fun c25 => ?_)
              · exact absurd c25 (by decide)
              · refine lv_iconst (v := 1) hx hb dX7_isSo_159 (by decide) ?_
                refine lv_goto (tgt := 164) hx hb dX7_isSo_160 (by decide) ?_
                exact g_zret hx hb hr hlocks hP hS dX7_isSo_164 rfl hF rfl
            · have hF := (if_neg c24).symm.trans hF
              have hok := Eq.mp (if_neg c24) hok
              refine lv_iconst (v := 1) hx hb dX7_isSo_151 (by decide) ?_
              refine lv_goto (tgt := 156) hx hb dX7_isSo_152 (by decide) ?_
              refine lv_icmp_ne (tgt := 163) hx hb dX7_isSo_156 (by decide) (fun c26 => ?_) (fun c26 => ?_)
              · refine lv_iconst (v := 0) hx hb dX7_isSo_163 (by decide) ?_
                exact g_zret hx hb hr hlocks hP hS dX7_isSo_164 rfl hF rfl
              · exact absurd c26 (by decide)
          · have hF := (if_pos c20).symm.trans hF
            have hok := Eq.mp (if_pos c20) hok
            refine lv_iconst (v := 1) hx hb dX7_isSo_140 (by decide) ?_
            refine lv_goto (tgt := 145) hx hb dX7_isSo_141 (by decide) ?_
            refine lv_iload_n hx hb dX7_isSo_145 rfl (lv_at hl 1 rfl) ?_
            refine lv_bipush (v := 8) hx hb dX7_isSo_146 (by decide) ?_
            refine lv_icmp_ge (tgt := 155) hx hb dX7_isSo_148 (by decide) (fun c21 => ?_) (fun c21 => ?_)
            · have hF := (if_pos c21).symm.trans hF
              have hok := Eq.mp (if_pos c21) hok
              refine lv_iconst (v := 0) hx hb dX7_isSo_155 (by decide) ?_
              refine lv_icmp_ne (tgt := 163) hx hb dX7_isSo_156 (by decide) (fun c22 => ?_) (fun c22 => ?_)
              · refine lv_iconst (v := 0) hx hb dX7_isSo_163 (by decide) ?_
                exact g_zret hx hb hr hlocks hP hS dX7_isSo_164 rfl hF rfl
              · exact absurd c22 (by decide)
            · have hF := (if_neg c21).symm.trans hF
              have hok := Eq.mp (if_neg c21) hok
              refine lv_iconst (v := 1) hx hb dX7_isSo_151 (by decide) ?_
              refine lv_goto (tgt := 156) hx hb dX7_isSo_152 (by decide) ?_
              refine lv_icmp_ne (tgt := 163) hx hb dX7_isSo_156 (by decide) (fun c23 => ?_) (fun c23 => ?_)
              · exact absurd c23 (by decide)
              · refine lv_iconst (v := 1) hx hb dX7_isSo_159 (by decide) ?_
                refine lv_goto (tgt := 164) hx hb dX7_isSo_160 (by decide) ?_
                exact g_zret hx hb hr hlocks hP hS dX7_isSo_164 rfl hF rfl
        · have hF := (if_neg c19).symm.trans hF
          have hok := Eq.mp (if_neg c19) hok
          refine sw_case (v := 4) (fun c27 => ?_) (fun c27 => ?_)
          · have hF := (if_pos c27).symm.trans hF
            have hok := Eq.mp (if_pos c27) hok
            refine sw_in (off := 161) (tgt := 165) 4 hx hb dX7_isSo_4 c27 (by decide) (by decide) ?_
            refine lv_aload_n hx hb dX7_isSo_165 rfl (lv_at hl 0 rfl) ?_
            refine g_Vi hx hb hml hown hg (c_X7_isLight l dC dI cI cZ x hi _) cs_X7_62 rfl rfl ⟨Nat.le_of_ble_eq_true rfl, Nat.le_of_ble_eq_true rfl⟩ hK hP hS (q0 := 0) rfl rfl rfl hl.1 rfl (Nat.le_of_ble_eq_true rfl) dX7_isSo_166 ⟨Nat.zero_le _, Nat.zero_le _⟩ (fun H locs hP hS => ?_)
            refine lv_iload_n hx hb dX7_isSo_169 rfl (lv_at hl 1 rfl) ?_
            refine lv_bipush (v := 8) hx hb dX7_isSo_170 (by decide) ?_
            refine lv_icmp_ge (tgt := 179) hx hb dX7_isSo_172 (by decide) (fun c28 => ?_) (fun c28 => ?_)
            · have hF := (if_pos c28).symm.trans hF
              have hok := Eq.mp (if_pos c28) hok
              refine lv_iconst (v := 0) hx hb dX7_isSo_179 (by decide) ?_
              refine lv_icmp_ne (tgt := 187) hx hb dX7_isSo_180 (by decide) (fun c29 => ?_) (fun c29 => ?_)
              · have hF := (if_neg c29).symm.trans hF
                have hok := Eq.mp (if_neg c29) hok
                refine lv_iconst (v := 0) hx hb dX7_isSo_187 (by decide) ?_
                exact g_zret hx hb hr hlocks hP hS dX7_isSo_188 rfl hF rfl
              · have hF := (if_pos c29).symm.trans hF
                have hok := Eq.mp (if_pos c29) hok
                refine lv_iconst (v := 1) hx hb dX7_isSo_183 (by decide) ?_
                refine lv_goto (tgt := 188) hx hb dX7_isSo_184 (by decide) ?_
                exact g_zret hx hb hr hlocks hP hS dX7_isSo_188 rfl hF rfl
            · have hF := (if_neg c28).symm.trans hF
              have hok := Eq.mp (if_neg c28) hok
              refine lv_iconst (v := 1) hx hb dX7_isSo_175 (by decide) ?_
              refine lv_goto (tgt := 180) hx hb dX7_isSo_176 (by decide) ?_
              refine lv_icmp_ne (tgt := 187) hx hb dX7_isSo_180 (by decide) (fun c30 => ?_) (fun c30 => ?_)
              · have hF := (if_neg c30).symm.trans hF
                have hok := Eq.mp (if_neg c30) hok
                refine lv_iconst (v := 0) hx hb dX7_isSo_187 (by decide) ?_
                exact g_zret hx hb hr hlocks hP hS dX7_isSo_188 rfl hF rfl
              · have hF := (if_pos c30).symm.trans hF
                have hok := Eq.mp (if_pos c30) hok
                refine lv_iconst (v := 1) hx hb dX7_isSo_183 (by decide) ?_
                refine lv_goto (tgt := 188) hx hb dX7_isSo_184 (by decide) ?_
                exact g_zret hx hb hr hlocks hP hS dX7_isSo_188 rfl hF rfl
          · have hF := (if_neg c27).symm.trans hF
            have hok := Eq.mp (if_neg c27) hok
            refine sw_case (v := 6) (fun c31 => ?_) (fun c31 => ?_)
            · have hF := (if_pos c31).symm.trans hF
              have hok := Eq.mp (if_pos c31) hok
              refine sw_in (off := 185) (tgt := 189) 6 hx hb dX7_isSo_4 c31 (by decide) (by decide) ?_
              refine lv_aload_n hx hb dX7_isSo_189 rfl (lv_at hl 0 rfl) ?_
              refine ge_X7_down hx hb hg hown kf_X7_22 hK hP dX7_isSo_190 ?_
              refine lv_aload_n hx hb dX7_isSo_193 rfl (lv_at hl 0 rfl) ?_
              refine ge_X7_latch hx hb hg hown kf_X7_66 hK hP dX7_isSo_194 ?_
              obtain ⟨c32, hok⟩ := hok
              refine ml_down hx hb hK hP c32 dX7_isSo_197 ?_
              refine lv_iload_n hx hb dX7_isSo_198 rfl (lv_at hl 1 rfl) ?_
              refine lv_bipush (v := 8) hx hb dX7_isSo_199 (by decide) ?_
              refine lv_icmp_ge (tgt := 208) hx hb dX7_isSo_201 (by decide) (fun c33 => ?_) (fun c33 => ?_)
              · have hF := (if_pos c33).symm.trans hF
                have hok := Eq.mp (if_pos c33) hok
                refine lv_iconst (v := 0) hx hb dX7_isSo_208 (by decide) ?_
                refine lv_icmp_ne (tgt := 216) hx hb dX7_isSo_209 (by decide) (fun c34 => ?_) (fun c34 => ?_)
                · have hF := (if_neg c34).symm.trans hF
                  have hok := Eq.mp (if_neg c34) hok
                  refine lv_iconst (v := 0) hx hb dX7_isSo_216 (by decide) ?_
                  exact g_zret hx hb hr hlocks hP hS dX7_isSo_217 rfl hF rfl
                · have hF := (if_pos c34).symm.trans hF
                  have hok := Eq.mp (if_pos c34) hok
                  refine lv_iconst (v := 1) hx hb dX7_isSo_212 (by decide) ?_
                  refine lv_goto (tgt := 217) hx hb dX7_isSo_213 (by decide) ?_
                  exact g_zret hx hb hr hlocks hP hS dX7_isSo_217 rfl hF rfl
              · have hF := (if_neg c33).symm.trans hF
                have hok := Eq.mp (if_neg c33) hok
                refine lv_iconst (v := 1) hx hb dX7_isSo_204 (by decide) ?_
                refine lv_goto (tgt := 209) hx hb dX7_isSo_205 (by decide) ?_
                refine lv_icmp_ne (tgt := 216) hx hb dX7_isSo_209 (by decide) (fun c35 => ?_) (fun c35 => ?_)
                · have hF := (if_neg c35).symm.trans hF
                  have hok := Eq.mp (if_neg c35) hok
                  refine lv_iconst (v := 0) hx hb dX7_isSo_216 (by decide) ?_
                  exact g_zret hx hb hr hlocks hP hS dX7_isSo_217 rfl hF rfl
                · have hF := (if_pos c35).symm.trans hF
                  have hok := Eq.mp (if_pos c35) hok
                  refine lv_iconst (v := 1) hx hb dX7_isSo_212 (by decide) ?_
                  refine lv_goto (tgt := 217) hx hb dX7_isSo_213 (by decide) ?_
                  exact g_zret hx hb hr hlocks hP hS dX7_isSo_217 rfl hF rfl
            · have hF := (if_neg c31).symm.trans hF
              have hok := Eq.mp (if_neg c31) hok
              refine sw_def (tgt := 218) [0, 1, 2, 3, 4, 6] hx hb dX7_isSo_4 (List.forall_mem_cons.mpr ⟨c1, List.forall_mem_cons.mpr ⟨c3, List.forall_mem_cons.mpr ⟨c11, List.forall_mem_cons.mpr ⟨c19, List.forall_mem_cons.mpr ⟨c27, List.forall_mem_cons.mpr ⟨c31, fun _ h => absurd h List.not_mem_nil⟩⟩⟩⟩⟩⟩) (by decide) (by decide) ?_
              refine lv_iload_n hx hb dX7_isSo_218 rfl (lv_at hl 1 rfl) ?_
              refine lv_bipush (v := 8) hx hb dX7_isSo_219 (by decide) ?_
              refine lv_icmp_le (tgt := 228) hx hb dX7_isSo_221 (by decide) (fun c36 => ?_) (fun c36 => ?_)
              · have hF := (if_pos c36).symm.trans hF
                have hok := Eq.mp (if_pos c36) hok
                refine lv_iconst (v := 0) hx hb dX7_isSo_228 (by decide) ?_
                exact g_zret hx hb hr hlocks hP hS dX7_isSo_229 rfl hF rfl
              · have hF := (if_neg c36).symm.trans hF
                have hok := Eq.mp (if_neg c36) hok
                refine lv_iconst (v := 1) hx hb dX7_isSo_224 (by decide) ?_
                refine lv_goto (tgt := 229) hx hb dX7_isSo_225 (by decide) ?_
                exact g_zret hx hb hr hlocks hP hS dX7_isSo_229 rfl hF rfl
def f_X7_branch (u : MS) (p0 : Int32) : MS :=
  let t1 : Int32 := (f_X7_m u (mq_s u 18))
  if (f_X7_isSo u p0) = 0 then
    let r2 : MS := f_X7_grow u (mq_s u 18) 1
    r2
  else
    let r3 : MS := f_X7_low u (mq_s u 18) t1
    r3
def ok_X7_branch (u : MS) (p0 : Int32) : Prop :=
  ok_X7_m u (mq_s u 18) ∧
  let t1 : Int32 := (f_X7_m u (mq_s u 18))
  ok_X7_isSo u p0 ∧
  if (f_X7_isSo u p0) = 0 then
    ok_X7_grow u (mq_s u 18) 1 ∧
    let r2 : MS := f_X7_grow u (mq_s u 18) 1
    True
  else
    ok_X7_low u (mq_s u 18) t1 ∧
    let r3 : MS := f_X7_low u (mq_s u 18) t1
    True
set_option maxHeartbeats 4000000 in
set_option maxRecDepth 100000 in
theorem c_X7_branch (l : Launch) (dC : Nat → ClassId) (dI : Nat → Nat → Nat) (cI cZ : ClassId) (x : Nat → Nat) (hi : g_inj 7 x) (u : MS) (p0 : Int32) (hok : ok_X7_branch u p0) : g_Mv l yX7_branch (.code yX7_branch cX7_branch 3 none) { frames := 2, cells := 0, slots := 0, locals := 42 } (dC, dI) vwCl (tysW cI cZ) (wM x cI cZ) (g_bA 7 x) u [.ref (x 0), .int p0] (f_X7_branch u p0) := by
  refine Met.ofW (cc := cX7_branch) (maxL := 3) (ret := none) (by decide) rfl ?_
  intro p e s m args below meth c s₁ B hml hv
  obtain ⟨rfl, hP, hK⟩ := hv
  have hx := B.exec
  have hb := B.bytes
  have hr := B.returns
  have hts := atoms_spec (ws := .code yX7_branch cX7_branch 3 none :: gtbl) B.pre
  have hg : ∀ w ∈ gtbl, w.before _ s = true := fun w h => hts w (List.mem_cons_of_mem _ h)
  have hown : s.vm.findClass RX7 = some m.cls := findClass_of_methodNamed B.named
  have hlocks := B.notSynchronized
  have hS : va_S (g_bA 7 x) s.heap s.heap [] := va_S.rf
  have hl := lv_entry ([.ref (x 0), .int p0]) (n := 3) (Nat.le_of_ble_eq_true rfl)
  rw [lg_entry_eq]
  generalize (lg_sl ([.ref (x 0), .int p0]) ++ List.replicate (3 - (lg_sl ([.ref (x 0), .int p0])).length) Slot.unset).toArray = ls at hl ⊢
  have hl : lv_has ls 3 [(0, .ref (x 0)), (1, .int p0)] := hl
  obtain ⟨F, hF⟩ : ∃ F, f_X7_branch u p0 = F := ⟨_, rfl⟩
  rw [hF]
  refine lv_aload_n hx hb dX7_branch_0 rfl (lv_at hl 0 rfl) ?_
  refine lv_aload_n hx hb dX7_branch_1 rfl (lv_at hl 0 rfl) ?_
  refine ge_X7_s hx hb hg hown kf_X7_13 hK hP dX7_branch_2 ?_
  refine lv_bipush (v := 18) hx hb dX7_branch_5 (by decide) ?_
  refine mlc_s 18 (by decide) hx hb hK hP dX7_branch_7 ?_
  obtain ⟨c1, hok⟩ := hok
  refine g_Vi hx hb hml hown hg (c_X7_m l dC dI cI cZ x hi _ _ c1) cs_X7_47 rfl rfl ⟨Nat.le_of_ble_eq_true rfl, Nat.le_of_ble_eq_true rfl⟩ hK hP hS (q0 := 0) rfl rfl rfl hl.1 rfl (Nat.le_of_ble_eq_true rfl) dX7_branch_8 ⟨Nat.zero_le _, Nat.zero_le _⟩ (fun H locs hP hS => ?_)
  refine lv_istore_n hx hb dX7_branch_11 rfl hl (by decide) rfl (fun ls hl => ?_)
  have hl : lv_has ls 3 [(2, _), (0, _), (1, _)] := hl
  refine lv_aload_n hx hb dX7_branch_12 rfl (lv_at hl 1 rfl) ?_
  refine lv_iload_n hx hb dX7_branch_13 rfl (lv_at hl 2 rfl) ?_
  obtain ⟨c2, hok⟩ := hok
  refine g_Vi hx hb hml hown hg (c_X7_isSo l dC dI cI cZ x hi _ _ c2) cs_X7_69 rfl rfl ⟨Nat.le_of_ble_eq_true rfl, Nat.le_of_ble_eq_true rfl⟩ hK hP hS (q0 := 0) rfl rfl rfl hl.1 rfl (Nat.le_of_ble_eq_true rfl) dX7_branch_14 ⟨Nat.zero_le _, Nat.zero_le _⟩ (fun H locs hP hS => ?_)
  refine lv_if_eq (tgt := 35) hx hb dX7_branch_17 (by decide) (fun c3 => ?_) (fun c3 => ?_)
  · have hF := (if_pos c3).symm.trans hF
    have hok := Eq.mp (if_pos c3) hok
    refine lv_aload_n hx hb dX7_branch_35 rfl (lv_at hl 1 rfl) ?_
    refine lv_aload_n hx hb dX7_branch_36 rfl (lv_at hl 1 rfl) ?_
    refine ge_X7_s hx hb hg hown kf_X7_13 hK hP dX7_branch_37 ?_
    refine lv_bipush (v := 18) hx hb dX7_branch_40 (by decide) ?_
    refine mlc_s 18 (by decide) hx hb hK hP dX7_branch_42 ?_
    refine lv_iconst (v := 1) hx hb dX7_branch_43 (by decide) ?_
    obtain ⟨c4, hok⟩ := hok
    refine g_Vv hx hb hml hown hg (c_X7_grow l dC dI cI cZ x hi _ _ _ c4) cs_X7_50 rfl rfl ⟨Nat.le_of_ble_eq_true rfl, Nat.le_of_ble_eq_true rfl⟩ hK hP hS (q0 := 0) rfl rfl rfl hl.1 rfl (Nat.le_of_ble_eq_true rfl) dX7_branch_44 ⟨Nat.zero_le _, Nat.zero_le _⟩ (fun H locs hP hS => ?_)
    exact g_vret hx hb hr hlocks hP hS dX7_branch_47 hF
  · have hF := (if_neg c3).symm.trans hF
    have hok := Eq.mp (if_neg c3) hok
    refine lv_aload_n hx hb dX7_branch_20 rfl (lv_at hl 1 rfl) ?_
    refine lv_aload_n hx hb dX7_branch_21 rfl (lv_at hl 1 rfl) ?_
    refine ge_X7_s hx hb hg hown kf_X7_13 hK hP dX7_branch_22 ?_
    refine lv_bipush (v := 18) hx hb dX7_branch_25 (by decide) ?_
    refine mlc_s 18 (by decide) hx hb hK hP dX7_branch_27 ?_
    refine lv_iload_n hx hb dX7_branch_28 rfl (lv_at hl 0 rfl) ?_
    obtain ⟨c5, hok⟩ := hok
    refine g_Vv hx hb hml hown hg (c_X7_low l dC dI cI cZ x hi _ _ _ c5) cs_X7_73 rfl rfl ⟨Nat.le_of_ble_eq_true rfl, Nat.le_of_ble_eq_true rfl⟩ hK hP hS (q0 := 0) rfl rfl rfl hl.1 rfl (Nat.le_of_ble_eq_true rfl) dX7_branch_29 ⟨Nat.zero_le _, Nat.zero_le _⟩ (fun H locs hP hS => ?_)
    refine lv_goto (tgt := 47) hx hb dX7_branch_32 (by decide) ?_
    exact g_vret hx hb hr hlocks hP hS dX7_branch_47 hF
def f_X7_skips (u : MS) (p0 : Int32) : Int32 :=
  if p0 = 5 then
    if (mq_s u 22) = 0 then
      1
    else
      0
  else
    if p0 = 6 then
      if (mq_s u 16) = 0 then
        0
      else
        1
    else
      if p0 = 7 then
        if (mq_s u 17) = 0 then
          1
        else
          0
      else
        if p0 = 8 then
          1
        else
          if p0 = 12 then
            if (mq_s u 21) = 1 then
              1
            else
              0
          else
            if p0 = 13 then
              if (mq_s u 22) = 1 then
                1
              else
                0
            else
              if p0 = 14 then
                if (mq_s u 16) = 0 then
                  1
                else
                  0
              else
                if p0 = 15 then
                  if (mq_s u 17) = 1 then
                    1
                  else
                    0
                else
                  0
set_option maxHeartbeats 4000000 in
set_option maxRecDepth 100000 in
theorem c_X7_skips (l : Launch) (dC : Nat → ClassId) (dI : Nat → Nat → Nat) (cI cZ : ClassId) (x : Nat → Nat) (hi : g_inj 7 x) (u : MS) (p0 : Int32) : g_Mi l yX7_skips (.code yX7_skips cX7_skips 2 (some .boolean)) { frames := 0, cells := 0, slots := 0, locals := 0 } (dC, dI) vwCl (tysW cI cZ) (wM x cI cZ) (g_bA 7 x) u [.ref (x 0), .int p0] (f_X7_skips u p0) u := by
  refine Met.ofW (cc := cX7_skips) (maxL := 2) (ret := (some .boolean)) (by decide) rfl ?_
  intro p e s m args below meth c s₁ B hml hv
  obtain ⟨rfl, hP, hK⟩ := hv
  have hx := B.exec
  have hb := B.bytes
  have hr := B.returns
  have hts := atoms_spec (ws := .code yX7_skips cX7_skips 2 (some .boolean) :: gtbl) B.pre
  have hg : ∀ w ∈ gtbl, w.before _ s = true := fun w h => hts w (List.mem_cons_of_mem _ h)
  have hown : s.vm.findClass RX7 = some m.cls := findClass_of_methodNamed B.named
  have hlocks := B.notSynchronized
  have hS : va_S (g_bA 7 x) s.heap s.heap [] := va_S.rf
  have hl := lv_entry ([.ref (x 0), .int p0]) (n := 2) (Nat.le_of_ble_eq_true rfl)
  rw [lg_entry_eq]
  generalize (lg_sl ([.ref (x 0), .int p0]) ++ List.replicate (2 - (lg_sl ([.ref (x 0), .int p0])).length) Slot.unset).toArray = ls at hl ⊢
  have hl : lv_has ls 2 [(0, .ref (x 0)), (1, .int p0)] := hl
  obtain ⟨F, hF⟩ : ∃ F, f_X7_skips u p0 = F := ⟨_, rfl⟩
  rw [hF]
  refine lv_iload_n hx hb dX7_skips_0 rfl (lv_at hl 1 rfl) ?_
  refine sw_case (v := 5) (fun c1 => ?_) (fun c1 => ?_)
  · have hF := (if_pos c1).symm.trans hF
    refine sw_in (off := 59) (tgt := 60) 5 hx hb dX7_skips_1 c1 (by decide) (by decide) ?_
    refine lv_aload_n hx hb dX7_skips_60 rfl (lv_at hl 0 rfl) ?_
    refine ge_X7_s hx hb hg hown kf_X7_13 hK hP dX7_skips_61 ?_
    refine lv_bipush (v := 22) hx hb dX7_skips_64 (by decide) ?_
    refine mlc_s 22 (by decide) hx hb hK hP dX7_skips_66 ?_
    refine lv_if_ne (tgt := 74) hx hb dX7_skips_67 (by decide) (fun c2 => ?_) (fun c2 => ?_)
    · have hF := (if_neg c2).symm.trans hF
      refine lv_iconst (v := 0) hx hb dX7_skips_74 (by decide) ?_
      exact g_zret hx hb hr hlocks hP hS dX7_skips_75 rfl hF rfl
    · have hF := (if_pos c2).symm.trans hF
      refine lv_iconst (v := 1) hx hb dX7_skips_70 (by decide) ?_
      refine lv_goto (tgt := 75) hx hb dX7_skips_71 (by decide) ?_
      exact g_zret hx hb hr hlocks hP hS dX7_skips_75 rfl hF rfl
  · have hF := (if_neg c1).symm.trans hF
    refine sw_case (v := 6) (fun c3 => ?_) (fun c3 => ?_)
    · have hF := (if_pos c3).symm.trans hF
      refine sw_in (off := 75) (tgt := 76) 6 hx hb dX7_skips_1 c3 (by decide) (by decide) ?_
      refine lv_aload_n hx hb dX7_skips_76 rfl (lv_at hl 0 rfl) ?_
      refine ge_X7_s hx hb hg hown kf_X7_13 hK hP dX7_skips_77 ?_
      refine lv_bipush (v := 16) hx hb dX7_skips_80 (by decide) ?_
      refine mlc_s 16 (by decide) hx hb hK hP dX7_skips_82 ?_
      refine lv_if_eq (tgt := 90) hx hb dX7_skips_83 (by decide) (fun c4 => ?_) (fun c4 => ?_)
      · have hF := (if_pos c4).symm.trans hF
        refine lv_iconst (v := 0) hx hb dX7_skips_90 (by decide) ?_
        exact g_zret hx hb hr hlocks hP hS dX7_skips_91 rfl hF rfl
      · have hF := (if_neg c4).symm.trans hF
        refine lv_iconst (v := 1) hx hb dX7_skips_86 (by decide) ?_
        refine lv_goto (tgt := 91) hx hb dX7_skips_87 (by decide) ?_
        exact g_zret hx hb hr hlocks hP hS dX7_skips_91 rfl hF rfl
    · have hF := (if_neg c3).symm.trans hF
      refine sw_case (v := 7) (fun c5 => ?_) (fun c5 => ?_)
      · have hF := (if_pos c5).symm.trans hF
        refine sw_in (off := 91) (tgt := 92) 7 hx hb dX7_skips_1 c5 (by decide) (by decide) ?_
        refine lv_aload_n hx hb dX7_skips_92 rfl (lv_at hl 0 rfl) ?_
        refine ge_X7_s hx hb hg hown kf_X7_13 hK hP dX7_skips_93 ?_
        refine lv_bipush (v := 17) hx hb dX7_skips_96 (by decide) ?_
        refine mlc_s 17 (by decide) hx hb hK hP dX7_skips_98 ?_
        refine lv_if_ne (tgt := 106) hx hb dX7_skips_99 (by decide) (fun c6 => ?_) (fun c6 => ?_)
        · have hF := (if_neg c6).symm.trans hF
          refine lv_iconst (v := 0) hx hb dX7_skips_106 (by decide) ?_
          exact g_zret hx hb hr hlocks hP hS dX7_skips_107 rfl hF rfl
        · have hF := (if_pos c6).symm.trans hF
          refine lv_iconst (v := 1) hx hb dX7_skips_102 (by decide) ?_
          refine lv_goto (tgt := 107) hx hb dX7_skips_103 (by decide) ?_
          exact g_zret hx hb hr hlocks hP hS dX7_skips_107 rfl hF rfl
      · have hF := (if_neg c5).symm.trans hF
        refine sw_case (v := 8) (fun c7 => ?_) (fun c7 => ?_)
        · have hF := (if_pos c7).symm.trans hF
          refine sw_in (off := 107) (tgt := 108) 8 hx hb dX7_skips_1 c7 (by decide) (by decide) ?_
          refine lv_iconst (v := 1) hx hb dX7_skips_108 (by decide) ?_
          exact g_zret hx hb hr hlocks hP hS dX7_skips_109 rfl hF rfl
        · have hF := (if_neg c7).symm.trans hF
          refine sw_case (v := 12) (fun c8 => ?_) (fun c8 => ?_)
          · have hF := (if_pos c8).symm.trans hF
            refine sw_in (off := 109) (tgt := 110) 12 hx hb dX7_skips_1 c8 (by decide) (by decide) ?_
            refine lv_aload_n hx hb dX7_skips_110 rfl (lv_at hl 0 rfl) ?_
            refine ge_X7_s hx hb hg hown kf_X7_13 hK hP dX7_skips_111 ?_
            refine lv_bipush (v := 21) hx hb dX7_skips_114 (by decide) ?_
            refine mlc_s 21 (by decide) hx hb hK hP dX7_skips_116 ?_
            refine lv_iconst (v := 1) hx hb dX7_skips_117 (by decide) ?_
            refine lv_icmp_ne (tgt := 125) hx hb dX7_skips_118 (by decide) (fun c9 => ?_) (fun c9 => ?_)
            · have hF := (if_neg c9).symm.trans hF
              refine lv_iconst (v := 0) hx hb dX7_skips_125 (by decide) ?_
              exact g_zret hx hb hr hlocks hP hS dX7_skips_126 rfl hF rfl
            · have hF := (if_pos c9).symm.trans hF
              refine lv_iconst (v := 1) hx hb dX7_skips_121 (by decide) ?_
              refine lv_goto (tgt := 126) hx hb dX7_skips_122 (by decide) ?_
              exact g_zret hx hb hr hlocks hP hS dX7_skips_126 rfl hF rfl
          · have hF := (if_neg c8).symm.trans hF
            refine sw_case (v := 13) (fun c10 => ?_) (fun c10 => ?_)
            · have hF := (if_pos c10).symm.trans hF
              refine sw_in (off := 126) (tgt := 127) 13 hx hb dX7_skips_1 c10 (by decide) (by decide) ?_
              refine lv_aload_n hx hb dX7_skips_127 rfl (lv_at hl 0 rfl) ?_
              refine ge_X7_s hx hb hg hown kf_X7_13 hK hP dX7_skips_128 ?_
              refine lv_bipush (v := 22) hx hb dX7_skips_131 (by decide) ?_
              refine mlc_s 22 (by decide) hx hb hK hP dX7_skips_133 ?_
              refine lv_iconst (v := 1) hx hb dX7_skips_134 (by decide) ?_
              refine lv_icmp_ne (tgt := 142) hx hb dX7_skips_135 (by decide) (fun c11 => ?_) (fun c11 => ?_)
              · have hF := (if_neg c11).symm.trans hF
                refine lv_iconst (v := 0) hx hb dX7_skips_142 (by decide) ?_
                exact g_zret hx hb hr hlocks hP hS dX7_skips_143 rfl hF rfl
              · have hF := (if_pos c11).symm.trans hF
                refine lv_iconst (v := 1) hx hb dX7_skips_138 (by decide) ?_
                refine lv_goto (tgt := 143) hx hb dX7_skips_139 (by decide) ?_
                exact g_zret hx hb hr hlocks hP hS dX7_skips_143 rfl hF rfl
            · have hF := (if_neg c10).symm.trans hF
              refine sw_case (v := 14) (fun c12 => ?_) (fun c12 => ?_)
              · have hF := (if_pos c12).symm.trans hF
                refine sw_in (off := 143) (tgt := 144) 14 hx hb dX7_skips_1 c12 (by decide) (by decide) ?_
                refine lv_aload_n hx hb dX7_skips_144 rfl (lv_at hl 0 rfl) ?_
                refine ge_X7_s hx hb hg hown kf_X7_13 hK hP dX7_skips_145 ?_
                refine lv_bipush (v := 16) hx hb dX7_skips_148 (by decide) ?_
                refine mlc_s 16 (by decide) hx hb hK hP dX7_skips_150 ?_
                refine lv_if_ne (tgt := 158) hx hb dX7_skips_151 (by decide) (fun c13 => ?_) (fun c13 => ?_)
                · have hF := (if_neg c13).symm.trans hF
                  refine lv_iconst (v := 0) hx hb dX7_skips_158 (by decide) ?_
                  exact g_zret hx hb hr hlocks hP hS dX7_skips_159 rfl hF rfl
                · have hF := (if_pos c13).symm.trans hF
                  refine lv_iconst (v := 1) hx hb dX7_skips_154 (by decide) ?_
                  refine lv_goto (tgt := 159) hx hb dX7_skips_155 (by decide) ?_
                  exact g_zret hx hb hr hlocks hP hS dX7_skips_159 rfl hF rfl
              · have hF := (if_neg c12).symm.trans hF
                refine sw_case (v := 15) (fun c14 => ?_) (fun c14 => ?_)
                · have hF := (if_pos c14).symm.trans hF
                  refine sw_in (off := 159) (tgt := 160) 15 hx hb dX7_skips_1 c14 (by decide) (by decide) ?_
                  refine lv_aload_n hx hb dX7_skips_160 rfl (lv_at hl 0 rfl) ?_
                  refine ge_X7_s hx hb hg hown kf_X7_13 hK hP dX7_skips_161 ?_
                  refine lv_bipush (v := 17) hx hb dX7_skips_164 (by decide) ?_
                  refine mlc_s 17 (by decide) hx hb hK hP dX7_skips_166 ?_
                  refine lv_iconst (v := 1) hx hb dX7_skips_167 (by decide) ?_
                  refine lv_icmp_ne (tgt := 175) hx hb dX7_skips_168 (by decide) (fun c15 => ?_) (fun c15 => ?_)
                  · have hF := (if_neg c15).symm.trans hF
                    refine lv_iconst (v := 0) hx hb dX7_skips_175 (by decide) ?_
                    exact g_zret hx hb hr hlocks hP hS dX7_skips_176 rfl hF rfl
                  · have hF := (if_pos c15).symm.trans hF
                    refine lv_iconst (v := 1) hx hb dX7_skips_171 (by decide) ?_
                    refine lv_goto (tgt := 176) hx hb dX7_skips_172 (by decide) ?_
                    exact g_zret hx hb hr hlocks hP hS dX7_skips_176 rfl hF rfl
                · have hF := (if_neg c14).symm.trans hF
                  refine sw_def (tgt := 177) [5, 6, 7, 8, 12, 13, 14, 15] hx hb dX7_skips_1 (List.forall_mem_cons.mpr ⟨c1, List.forall_mem_cons.mpr ⟨c3, List.forall_mem_cons.mpr ⟨c5, List.forall_mem_cons.mpr ⟨c7, List.forall_mem_cons.mpr ⟨c8, List.forall_mem_cons.mpr ⟨c10, List.forall_mem_cons.mpr ⟨c12, List.forall_mem_cons.mpr ⟨c14, fun _ h => absurd h List.not_mem_nil⟩⟩⟩⟩⟩⟩⟩⟩) (by decide) (by decide) ?_
                  refine lv_iconst (v := 0) hx hb dX7_skips_177 (by decide) ?_
                  exact g_zret hx hb hr hlocks hP hS dX7_skips_178 rfl hF rfl
def f_X7_wide (u : MS) (p0 : Int32) : MS :=
  if 4 ≤ (p0 &&& 7) then
    if (f_X7_skips u p0) = 0 then
      u
    else
      let r1 : MS := f_X7_grow u (mq_s u 18) 2
      r1
  else
    if p0 = 8 then
      if (f_X7_skips u p0) = 0 then
        u
      else
        let r2 : MS := f_X7_grow u (mq_s u 18) 2
        r2
    else
      let t3 : Int32 := (((f_X7_m u (mq_s u 18)) <<< ((8 : Int32) &&& 31)) ||| (f_X7_byteAt u ((mq_s u ((mq_s u 18)).toNatClampNeg) + 1)))
      if (f_X7_isSo u p0) = 0 then
        let r4 : MS := f_X7_grow u (mq_s u 18) 2
        r4
      else
        let u5 : MS := ms_s u (upd (mq_s u) ((mq_s u 18)).toNatClampNeg t3)
        u5
def ok_X7_wide (u : MS) (p0 : Int32) : Prop :=
  if 4 ≤ (p0 &&& 7) then
    if (f_X7_skips u p0) = 0 then
      True
    else
      ok_X7_grow u (mq_s u 18) 2 ∧
      let r1 : MS := f_X7_grow u (mq_s u 18) 2
      True
  else
    if p0 = 8 then
      if (f_X7_skips u p0) = 0 then
        True
      else
        ok_X7_grow u (mq_s u 18) 2 ∧
        let r2 : MS := f_X7_grow u (mq_s u 18) 2
        True
    else
      ok_X7_m u (mq_s u 18) ∧
      vp_in (mq_s u 18) 24 ∧
      let t3 : Int32 := (((f_X7_m u (mq_s u 18)) <<< ((8 : Int32) &&& 31)) ||| (f_X7_byteAt u ((mq_s u ((mq_s u 18)).toNatClampNeg) + 1)))
      ok_X7_isSo u p0 ∧
      if (f_X7_isSo u p0) = 0 then
        ok_X7_grow u (mq_s u 18) 2 ∧
        let r4 : MS := f_X7_grow u (mq_s u 18) 2
        True
      else
        vp_in (mq_s u 18) 24 ∧
        let u5 : MS := ms_s u (upd (mq_s u) ((mq_s u 18)).toNatClampNeg t3)
        True
set_option maxHeartbeats 4000000 in
set_option maxRecDepth 100000 in
theorem c_X7_wide (l : Launch) (dC : Nat → ClassId) (dI : Nat → Nat → Nat) (cI cZ : ClassId) (x : Nat → Nat) (hi : g_inj 7 x) (u : MS) (p0 : Int32) (hok : ok_X7_wide u p0) : g_Mv l yX7_wide (.code yX7_wide cX7_wide 3 none) { frames := 2, cells := 0, slots := 0, locals := 42 } (dC, dI) vwCl (tysW cI cZ) (wM x cI cZ) (g_bA 7 x) u [.ref (x 0), .int p0] (f_X7_wide u p0) := by
  refine Met.ofW (cc := cX7_wide) (maxL := 3) (ret := none) (by decide) rfl ?_
  intro p e s m args below meth c s₁ B hml hv
  obtain ⟨rfl, hP, hK⟩ := hv
  have hx := B.exec
  have hb := B.bytes
  have hr := B.returns
  have hts := atoms_spec (ws := .code yX7_wide cX7_wide 3 none :: gtbl) B.pre
  have hg : ∀ w ∈ gtbl, w.before _ s = true := fun w h => hts w (List.mem_cons_of_mem _ h)
  have hown : s.vm.findClass RX7 = some m.cls := findClass_of_methodNamed B.named
  have hlocks := B.notSynchronized
  have hS : va_S (g_bA 7 x) s.heap s.heap [] := va_S.rf
  have hl := lv_entry ([.ref (x 0), .int p0]) (n := 3) (Nat.le_of_ble_eq_true rfl)
  rw [lg_entry_eq]
  generalize (lg_sl ([.ref (x 0), .int p0]) ++ List.replicate (3 - (lg_sl ([.ref (x 0), .int p0])).length) Slot.unset).toArray = ls at hl ⊢
  have hl : lv_has ls 3 [(0, .ref (x 0)), (1, .int p0)] := hl
  obtain ⟨F, hF⟩ : ∃ F, f_X7_wide u p0 = F := ⟨_, rfl⟩
  rw [hF]
  refine lv_iload_n hx hb dX7_wide_0 rfl (lv_at hl 1 rfl) ?_
  refine lv_bipush (v := 7) hx hb dX7_wide_1 (by decide) ?_
  refine lv_iand hx hb dX7_wide_3 ?_
  refine lv_iconst (v := 4) hx hb dX7_wide_4 (by decide) ?_
  refine lv_icmp_ge (tgt := 87) hx hb dX7_wide_5 (by decide) (fun c1 => ?_) (fun c1 => ?_)
  · have hF := (if_pos c1).symm.trans hF
    have hok := Eq.mp (if_pos c1) hok
    refine lv_aload_n hx hb dX7_wide_87 rfl (lv_at hl 0 rfl) ?_
    refine lv_iload_n hx hb dX7_wide_88 rfl (lv_at hl 1 rfl) ?_
    refine g_Vi hx hb hml hown hg (c_X7_skips l dC dI cI cZ x hi _ _) cs_X7_76 rfl rfl ⟨Nat.le_of_ble_eq_true rfl, Nat.le_of_ble_eq_true rfl⟩ hK hP hS (q0 := 0) rfl rfl rfl hl.1 rfl (Nat.le_of_ble_eq_true rfl) dX7_wide_89 ⟨Nat.zero_le _, Nat.zero_le _⟩ (fun H locs hP hS => ?_)
    refine lv_if_eq (tgt := 107) hx hb dX7_wide_92 (by decide) (fun c2 => ?_) (fun c2 => ?_)
    · have hF := (if_pos c2).symm.trans hF
      have hok := Eq.mp (if_pos c2) hok
      exact g_vret hx hb hr hlocks hP hS dX7_wide_107 hF
    · have hF := (if_neg c2).symm.trans hF
      have hok := Eq.mp (if_neg c2) hok
      refine lv_aload_n hx hb dX7_wide_95 rfl (lv_at hl 0 rfl) ?_
      refine lv_aload_n hx hb dX7_wide_96 rfl (lv_at hl 0 rfl) ?_
      refine ge_X7_s hx hb hg hown kf_X7_13 hK hP dX7_wide_97 ?_
      refine lv_bipush (v := 18) hx hb dX7_wide_100 (by decide) ?_
      refine mlc_s 18 (by decide) hx hb hK hP dX7_wide_102 ?_
      refine lv_iconst (v := 2) hx hb dX7_wide_103 (by decide) ?_
      obtain ⟨c3, hok⟩ := hok
      refine g_Vv hx hb hml hown hg (c_X7_grow l dC dI cI cZ x hi _ _ _ c3) cs_X7_50 rfl rfl ⟨Nat.le_of_ble_eq_true rfl, Nat.le_of_ble_eq_true rfl⟩ hK hP hS (q0 := 0) rfl rfl rfl hl.1 rfl (Nat.le_of_ble_eq_true rfl) dX7_wide_104 ⟨Nat.zero_le _, Nat.zero_le _⟩ (fun H locs hP hS => ?_)
      exact g_vret hx hb hr hlocks hP hS dX7_wide_107 hF
  · have hF := (if_neg c1).symm.trans hF
    have hok := Eq.mp (if_neg c1) hok
    refine lv_iload_n hx hb dX7_wide_8 rfl (lv_at hl 1 rfl) ?_
    refine lv_bipush (v := 8) hx hb dX7_wide_9 (by decide) ?_
    refine lv_icmp_eq (tgt := 87) hx hb dX7_wide_11 (by decide) (fun c4 => ?_) (fun c4 => ?_)
    · have hF := (if_pos c4).symm.trans hF
      have hok := Eq.mp (if_pos c4) hok
      refine lv_aload_n hx hb dX7_wide_87 rfl (lv_at hl 0 rfl) ?_
      refine lv_iload_n hx hb dX7_wide_88 rfl (lv_at hl 1 rfl) ?_
      refine g_Vi hx hb hml hown hg (c_X7_skips l dC dI cI cZ x hi _ _) cs_X7_76 rfl rfl ⟨Nat.le_of_ble_eq_true rfl, Nat.le_of_ble_eq_true rfl⟩ hK hP hS (q0 := 0) rfl rfl rfl hl.1 rfl (Nat.le_of_ble_eq_true rfl) dX7_wide_89 ⟨Nat.zero_le _, Nat.zero_le _⟩ (fun H locs hP hS => ?_)
      refine lv_if_eq (tgt := 107) hx hb dX7_wide_92 (by decide) (fun c5 => ?_) (fun c5 => ?_)
      · have hF := (if_pos c5).symm.trans hF
        have hok := Eq.mp (if_pos c5) hok
        exact g_vret hx hb hr hlocks hP hS dX7_wide_107 hF
      · have hF := (if_neg c5).symm.trans hF
        have hok := Eq.mp (if_neg c5) hok
        refine lv_aload_n hx hb dX7_wide_95 rfl (lv_at hl 0 rfl) ?_
        refine lv_aload_n hx hb dX7_wide_96 rfl (lv_at hl 0 rfl) ?_
        refine ge_X7_s hx hb hg hown kf_X7_13 hK hP dX7_wide_97 ?_
        refine lv_bipush (v := 18) hx hb dX7_wide_100 (by decide) ?_
        refine mlc_s 18 (by decide) hx hb hK hP dX7_wide_102 ?_
        refine lv_iconst (v := 2) hx hb dX7_wide_103 (by decide) ?_
        obtain ⟨c6, hok⟩ := hok
        refine g_Vv hx hb hml hown hg (c_X7_grow l dC dI cI cZ x hi _ _ _ c6) cs_X7_50 rfl rfl ⟨Nat.le_of_ble_eq_true rfl, Nat.le_of_ble_eq_true rfl⟩ hK hP hS (q0 := 0) rfl rfl rfl hl.1 rfl (Nat.le_of_ble_eq_true rfl) dX7_wide_104 ⟨Nat.zero_le _, Nat.zero_le _⟩ (fun H locs hP hS => ?_)
        exact g_vret hx hb hr hlocks hP hS dX7_wide_107 hF
    · have hF := (if_neg c4).symm.trans hF
      have hok := Eq.mp (if_neg c4) hok
      refine lv_aload_n hx hb dX7_wide_14 rfl (lv_at hl 0 rfl) ?_
      refine lv_aload_n hx hb dX7_wide_15 rfl (lv_at hl 0 rfl) ?_
      refine ge_X7_s hx hb hg hown kf_X7_13 hK hP dX7_wide_16 ?_
      refine lv_bipush (v := 18) hx hb dX7_wide_19 (by decide) ?_
      refine mlc_s 18 (by decide) hx hb hK hP dX7_wide_21 ?_
      obtain ⟨c7, hok⟩ := hok
      refine g_Vi hx hb hml hown hg (c_X7_m l dC dI cI cZ x hi _ _ c7) cs_X7_47 rfl rfl ⟨Nat.le_of_ble_eq_true rfl, Nat.le_of_ble_eq_true rfl⟩ hK hP hS (q0 := 0) rfl rfl rfl hl.1 rfl (Nat.le_of_ble_eq_true rfl) dX7_wide_22 ⟨Nat.zero_le _, Nat.zero_le _⟩ (fun H locs hP hS => ?_)
      refine lv_bipush (v := 8) hx hb dX7_wide_25 (by decide) ?_
      refine lv_ishl hx hb dX7_wide_27 ?_
      refine lv_aload_n hx hb dX7_wide_28 rfl (lv_at hl 0 rfl) ?_
      refine lv_aload_n hx hb dX7_wide_29 rfl (lv_at hl 0 rfl) ?_
      refine ge_X7_s hx hb hg hown kf_X7_13 hK hP dX7_wide_30 ?_
      refine lv_aload_n hx hb dX7_wide_33 rfl (lv_at hl 0 rfl) ?_
      refine ge_X7_s hx hb hg hown kf_X7_13 hK hP dX7_wide_34 ?_
      refine lv_bipush (v := 18) hx hb dX7_wide_37 (by decide) ?_
      refine mlc_s 18 (by decide) hx hb hK hP dX7_wide_39 ?_
      obtain ⟨c8, hok⟩ := hok
      refine ml_s hx hb hK hP c8 dX7_wide_40 ?_
      refine lv_iconst (v := 1) hx hb dX7_wide_41 (by decide) ?_
      refine lv_iadd hx hb dX7_wide_42 ?_
      refine g_Vi hx hb hml hown hg (c_X7_byteAt l dC dI cI cZ x hi _ _) cs_X7_43 rfl rfl ⟨Nat.le_of_ble_eq_true rfl, Nat.le_of_ble_eq_true rfl⟩ hK hP hS (q0 := 0) rfl rfl rfl hl.1 rfl (Nat.le_of_ble_eq_true rfl) dX7_wide_43 ⟨Nat.zero_le _, Nat.zero_le _⟩ (fun H locs hP hS => ?_)
      refine lv_ior hx hb dX7_wide_46 ?_
      refine lv_istore_n hx hb dX7_wide_47 rfl hl (by decide) rfl (fun ls hl => ?_)
      have hl : lv_has ls 3 [(2, _), (0, _), (1, _)] := hl
      refine lv_aload_n hx hb dX7_wide_48 rfl (lv_at hl 1 rfl) ?_
      refine lv_iload_n hx hb dX7_wide_49 rfl (lv_at hl 2 rfl) ?_
      obtain ⟨c9, hok⟩ := hok
      refine g_Vi hx hb hml hown hg (c_X7_isSo l dC dI cI cZ x hi _ _ c9) cs_X7_69 rfl rfl ⟨Nat.le_of_ble_eq_true rfl, Nat.le_of_ble_eq_true rfl⟩ hK hP hS (q0 := 0) rfl rfl rfl hl.1 rfl (Nat.le_of_ble_eq_true rfl) dX7_wide_50 ⟨Nat.zero_le _, Nat.zero_le _⟩ (fun H locs hP hS => ?_)
      refine lv_if_eq (tgt := 72) hx hb dX7_wide_53 (by decide) (fun c10 => ?_) (fun c10 => ?_)
      · have hF := (if_pos c10).symm.trans hF
        have hok := Eq.mp (if_pos c10) hok
        refine lv_aload_n hx hb dX7_wide_72 rfl (lv_at hl 1 rfl) ?_
        refine lv_aload_n hx hb dX7_wide_73 rfl (lv_at hl 1 rfl) ?_
        refine ge_X7_s hx hb hg hown kf_X7_13 hK hP dX7_wide_74 ?_
        refine lv_bipush (v := 18) hx hb dX7_wide_77 (by decide) ?_
        refine mlc_s 18 (by decide) hx hb hK hP dX7_wide_79 ?_
        refine lv_iconst (v := 2) hx hb dX7_wide_80 (by decide) ?_
        obtain ⟨c11, hok⟩ := hok
        refine g_Vv hx hb hml hown hg (c_X7_grow l dC dI cI cZ x hi _ _ _ c11) cs_X7_50 rfl rfl ⟨Nat.le_of_ble_eq_true rfl, Nat.le_of_ble_eq_true rfl⟩ hK hP hS (q0 := 0) rfl rfl rfl hl.1 rfl (Nat.le_of_ble_eq_true rfl) dX7_wide_81 ⟨Nat.zero_le _, Nat.zero_le _⟩ (fun H locs hP hS => ?_)
        refine lv_goto (tgt := 107) hx hb dX7_wide_84 (by decide) ?_
        exact g_vret hx hb hr hlocks hP hS dX7_wide_107 hF
      · have hF := (if_neg c10).symm.trans hF
        have hok := Eq.mp (if_neg c10) hok
        refine lv_aload_n hx hb dX7_wide_56 rfl (lv_at hl 1 rfl) ?_
        refine ge_X7_s hx hb hg hown kf_X7_13 hK hP dX7_wide_57 ?_
        refine lv_aload_n hx hb dX7_wide_60 rfl (lv_at hl 1 rfl) ?_
        refine ge_X7_s hx hb hg hown kf_X7_13 hK hP dX7_wide_61 ?_
        refine lv_bipush (v := 18) hx hb dX7_wide_64 (by decide) ?_
        refine mlc_s 18 (by decide) hx hb hK hP dX7_wide_66 ?_
        refine lv_iload_n hx hb dX7_wide_67 rfl (lv_at hl 0 rfl) ?_
        obtain ⟨c12, hok⟩ := hok
        refine ma_s hi hx hb hK hP hS c12 dX7_wide_68 (fun H locs hP hS => ?_)
        refine lv_goto (tgt := 84) hx hb dX7_wide_69 (by decide) ?_
        refine lv_goto (tgt := 107) hx hb dX7_wide_84 (by decide) ?_
        exact g_vret hx hb hr hlocks hP hS dX7_wide_107 hF
def f_X7_port (u : MS) (p0 : Int32) : MS :=
  if p0 = 8 then
    u
  else
    if p0 ≤ 8 then
      if p0 = 1 then
        let u1 : MS := ms_on u 0
        let r2 : MS := f_X7_grow u1 (mq_s u1 19) 1
        r2
      else
        if p0 = 2 then
          let u3 : MS := ms_latch u ((f_X7_m u (mq_s u 19)) &&& 15)
          let r4 : MS := f_X7_grow u3 (mq_s u3 19) 1
          r4
        else
          let r5 : MS := f_X7_grow u (mq_s u 19) 1
          r5
    else
      let r6 : MS := f_X7_store u (mq_s u ((mq_s u 19)).toNatClampNeg) 0
      let u7 : MS := ms_s r6 (upd (mq_s r6) 16 0)
      if (mq_on u7) = 0 then
        if p0 = 9 then
          let u8 : MS := ms_on u7 1
          u8
        else
          let u9 : MS := ms_on u7 0
          u9
      else
        let u10 : MS := ms_on u7 1
        u10
def ok_X7_port (u : MS) (p0 : Int32) : Prop :=
  if p0 = 8 then
    True
  else
    if p0 ≤ 8 then
      if p0 = 1 then
        let u1 : MS := ms_on u 0
        ok_X7_grow u1 (mq_s u1 19) 1 ∧
        let r2 : MS := f_X7_grow u1 (mq_s u1 19) 1
        True
      else
        if p0 = 2 then
          ok_X7_m u (mq_s u 19) ∧
          let u3 : MS := ms_latch u ((f_X7_m u (mq_s u 19)) &&& 15)
          ok_X7_grow u3 (mq_s u3 19) 1 ∧
          let r4 : MS := f_X7_grow u3 (mq_s u3 19) 1
          True
        else
          ok_X7_grow u (mq_s u 19) 1 ∧
          let r5 : MS := f_X7_grow u (mq_s u 19) 1
          True
    else
      vp_in (mq_s u 19) 24 ∧
      let r6 : MS := f_X7_store u (mq_s u ((mq_s u 19)).toNatClampNeg) 0
      let u7 : MS := ms_s r6 (upd (mq_s r6) 16 0)
      if (mq_on u7) = 0 then
        if p0 = 9 then
          let u8 : MS := ms_on u7 1
          True
        else
          let u9 : MS := ms_on u7 0
          True
      else
        let u10 : MS := ms_on u7 1
        True
set_option maxHeartbeats 4000000 in
set_option maxRecDepth 100000 in
theorem c_X7_port (l : Launch) (dC : Nat → ClassId) (dI : Nat → Nat → Nat) (cI cZ : ClassId) (x : Nat → Nat) (hi : g_inj 7 x) (u : MS) (p0 : Int32) (hok : ok_X7_port u p0) : g_Mv l yX7_port (.code yX7_port cX7_port 2 none) { frames := 2, cells := 0, slots := 0, locals := 42 } (dC, dI) vwCl (tysW cI cZ) (wM x cI cZ) (g_bA 7 x) u [.ref (x 0), .int p0] (f_X7_port u p0) := by
  refine Met.ofW (cc := cX7_port) (maxL := 2) (ret := none) (by decide) rfl ?_
  intro p e s m args below meth c s₁ B hml hv
  obtain ⟨rfl, hP, hK⟩ := hv
  have hx := B.exec
  have hb := B.bytes
  have hr := B.returns
  have hts := atoms_spec (ws := .code yX7_port cX7_port 2 none :: gtbl) B.pre
  have hg : ∀ w ∈ gtbl, w.before _ s = true := fun w h => hts w (List.mem_cons_of_mem _ h)
  have hown : s.vm.findClass RX7 = some m.cls := findClass_of_methodNamed B.named
  have hlocks := B.notSynchronized
  have hS : va_S (g_bA 7 x) s.heap s.heap [] := va_S.rf
  have hl := lv_entry ([.ref (x 0), .int p0]) (n := 2) (Nat.le_of_ble_eq_true rfl)
  rw [lg_entry_eq]
  generalize (lg_sl ([.ref (x 0), .int p0]) ++ List.replicate (2 - (lg_sl ([.ref (x 0), .int p0])).length) Slot.unset).toArray = ls at hl ⊢
  have hl : lv_has ls 2 [(0, .ref (x 0)), (1, .int p0)] := hl
  obtain ⟨F, hF⟩ : ∃ F, f_X7_port u p0 = F := ⟨_, rfl⟩
  rw [hF]
  refine lv_iload_n hx hb dX7_port_0 rfl (lv_at hl 1 rfl) ?_
  refine lv_bipush (v := 8) hx hb dX7_port_1 (by decide) ?_
  refine lv_icmp_ne (tgt := 7) hx hb dX7_port_3 (by decide) (fun c1 => ?_) (fun c1 => ?_)
  · have hF := (if_neg c1).symm.trans hF
    have hok := Eq.mp (if_neg c1) hok
    refine lv_iload_n hx hb dX7_port_7 rfl (lv_at hl 1 rfl) ?_
    refine lv_bipush (v := 8) hx hb dX7_port_8 (by decide) ?_
    refine lv_icmp_le (tgt := 61) hx hb dX7_port_10 (by decide) (fun c2 => ?_) (fun c2 => ?_)
    · have hF := (if_pos c2).symm.trans hF
      have hok := Eq.mp (if_pos c2) hok
      refine lv_iload_n hx hb dX7_port_61 rfl (lv_at hl 1 rfl) ?_
      refine lv_iconst (v := 1) hx hb dX7_port_62 (by decide) ?_
      refine lv_icmp_ne (tgt := 71) hx hb dX7_port_63 (by decide) (fun c3 => ?_) (fun c3 => ?_)
      · have hF := (if_neg c3).symm.trans hF
        have hok := Eq.mp (if_neg c3) hok
        refine lv_iload_n hx hb dX7_port_71 rfl (lv_at hl 1 rfl) ?_
        refine lv_iconst (v := 2) hx hb dX7_port_72 (by decide) ?_
        refine lv_icmp_ne (tgt := 94) hx hb dX7_port_73 (by decide) (fun c6 => ?_) (fun c6 => ?_)
        · have hF := (if_neg c6).symm.trans hF
          have hok := Eq.mp (if_neg c6) hok
          refine lv_aload_n hx hb dX7_port_94 rfl (lv_at hl 0 rfl) ?_
          refine lv_aload_n hx hb dX7_port_95 rfl (lv_at hl 0 rfl) ?_
          refine ge_X7_s hx hb hg hown kf_X7_13 hK hP dX7_port_96 ?_
          refine lv_bipush (v := 19) hx hb dX7_port_99 (by decide) ?_
          refine mlc_s 19 (by decide) hx hb hK hP dX7_port_101 ?_
          refine lv_iconst (v := 1) hx hb dX7_port_102 (by decide) ?_
          obtain ⟨c9, hok⟩ := hok
          refine g_Vv hx hb hml hown hg (c_X7_grow l dC dI cI cZ x hi _ _ _ c9) cs_X7_50 rfl rfl ⟨Nat.le_of_ble_eq_true rfl, Nat.le_of_ble_eq_true rfl⟩ hK hP hS (q0 := 0) rfl rfl rfl hl.1 rfl (Nat.le_of_ble_eq_true rfl) dX7_port_103 ⟨Nat.zero_le _, Nat.zero_le _⟩ (fun H locs hP hS => ?_)
          exact g_vret hx hb hr hlocks hP hS dX7_port_106 hF
        · have hF := (if_pos c6).symm.trans hF
          have hok := Eq.mp (if_pos c6) hok
          refine lv_aload_n hx hb dX7_port_76 rfl (lv_at hl 0 rfl) ?_
          refine lv_aload_n hx hb dX7_port_77 rfl (lv_at hl 0 rfl) ?_
          refine lv_aload_n hx hb dX7_port_78 rfl (lv_at hl 0 rfl) ?_
          refine ge_X7_s hx hb hg hown kf_X7_13 hK hP dX7_port_79 ?_
          refine lv_bipush (v := 19) hx hb dX7_port_82 (by decide) ?_
          refine mlc_s 19 (by decide) hx hb hK hP dX7_port_84 ?_
          obtain ⟨c7, hok⟩ := hok
          refine g_Vi hx hb hml hown hg (c_X7_m l dC dI cI cZ x hi _ _ c7) cs_X7_47 rfl rfl ⟨Nat.le_of_ble_eq_true rfl, Nat.le_of_ble_eq_true rfl⟩ hK hP hS (q0 := 0) rfl rfl rfl hl.1 rfl (Nat.le_of_ble_eq_true rfl) dX7_port_85 ⟨Nat.zero_le _, Nat.zero_le _⟩ (fun H locs hP hS => ?_)
          refine lv_bipush (v := 15) hx hb dX7_port_88 (by decide) ?_
          refine lv_iand hx hb dX7_port_90 ?_
          refine pu_X7_latch hi hx hb hg hown kf_X7_66 hK hP hS dX7_port_91 (fun H locs hP hS => ?_)
          refine lv_aload_n hx hb dX7_port_94 rfl (lv_at hl 0 rfl) ?_
          refine lv_aload_n hx hb dX7_port_95 rfl (lv_at hl 0 rfl) ?_
          refine ge_X7_s hx hb hg hown kf_X7_13 hK hP dX7_port_96 ?_
          refine lv_bipush (v := 19) hx hb dX7_port_99 (by decide) ?_
          refine mlc_s 19 (by decide) hx hb hK hP dX7_port_101 ?_
          refine lv_iconst (v := 1) hx hb dX7_port_102 (by decide) ?_
          obtain ⟨c8, hok⟩ := hok
          refine g_Vv hx hb hml hown hg (c_X7_grow l dC dI cI cZ x hi _ _ _ c8) cs_X7_50 rfl rfl ⟨Nat.le_of_ble_eq_true rfl, Nat.le_of_ble_eq_true rfl⟩ hK hP hS (q0 := 0) rfl rfl rfl hl.1 rfl (Nat.le_of_ble_eq_true rfl) dX7_port_103 ⟨Nat.zero_le _, Nat.zero_le _⟩ (fun H locs hP hS => ?_)
          exact g_vret hx hb hr hlocks hP hS dX7_port_106 hF
      · have hF := (if_pos c3).symm.trans hF
        have hok := Eq.mp (if_pos c3) hok
        refine lv_aload_n hx hb dX7_port_66 rfl (lv_at hl 0 rfl) ?_
        refine lv_iconst (v := 0) hx hb dX7_port_67 (by decide) ?_
        refine pu_X7_on hi hx hb hg hown kf_X7_55 hK hP hS rfl rfl dX7_port_68 (fun H locs hP hS => ?_)
        refine lv_iload_n hx hb dX7_port_71 rfl (lv_at hl 1 rfl) ?_
        refine lv_iconst (v := 2) hx hb dX7_port_72 (by decide) ?_
        refine lv_icmp_ne (tgt := 94) hx hb dX7_port_73 (by decide) (fun c4 => ?_) (fun c4 => ?_)
        · refine lv_aload_n hx hb dX7_port_94 rfl (lv_at hl 0 rfl) ?_
          refine lv_aload_n hx hb dX7_port_95 rfl (lv_at hl 0 rfl) ?_
          refine ge_X7_s hx hb hg hown kf_X7_13 hK hP dX7_port_96 ?_
          refine lv_bipush (v := 19) hx hb dX7_port_99 (by decide) ?_
          refine mlc_s 19 (by decide) hx hb hK hP dX7_port_101 ?_
          refine lv_iconst (v := 1) hx hb dX7_port_102 (by decide) ?_
          obtain ⟨c5, hok⟩ := hok
          refine g_Vv hx hb hml hown hg (c_X7_grow l dC dI cI cZ x hi _ _ _ c5) cs_X7_50 rfl rfl ⟨Nat.le_of_ble_eq_true rfl, Nat.le_of_ble_eq_true rfl⟩ hK hP hS (q0 := 0) rfl rfl rfl hl.1 rfl (Nat.le_of_ble_eq_true rfl) dX7_port_103 ⟨Nat.zero_le _, Nat.zero_le _⟩ (fun H locs hP hS => ?_)
          exact g_vret hx hb hr hlocks hP hS dX7_port_106 hF
        · exact absurd c4 (by rw [c3]; decide)
    · have hF := (if_neg c2).symm.trans hF
      have hok := Eq.mp (if_neg c2) hok
      refine lv_aload_n hx hb dX7_port_13 rfl (lv_at hl 0 rfl) ?_
      refine lv_aload_n hx hb dX7_port_14 rfl (lv_at hl 0 rfl) ?_
      refine ge_X7_s hx hb hg hown kf_X7_13 hK hP dX7_port_15 ?_
      refine lv_aload_n hx hb dX7_port_18 rfl (lv_at hl 0 rfl) ?_
      refine ge_X7_s hx hb hg hown kf_X7_13 hK hP dX7_port_19 ?_
      refine lv_bipush (v := 19) hx hb dX7_port_22 (by decide) ?_
      refine mlc_s 19 (by decide) hx hb hK hP dX7_port_24 ?_
      obtain ⟨c10, hok⟩ := hok
      refine ml_s hx hb hK hP c10 dX7_port_25 ?_
      refine lv_iconst (v := 0) hx hb dX7_port_26 (by decide) ?_
      refine g_Vv hx hb hml hown hg (c_X7_store l dC dI cI cZ x hi _ _ _) cs_X7_79 rfl rfl ⟨Nat.le_of_ble_eq_true rfl, Nat.le_of_ble_eq_true rfl⟩ hK hP hS (q0 := 0) rfl rfl rfl hl.1 rfl (Nat.le_of_ble_eq_true rfl) dX7_port_27 ⟨Nat.zero_le _, Nat.zero_le _⟩ (fun H locs hP hS => ?_)
      refine lv_aload_n hx hb dX7_port_30 rfl (lv_at hl 0 rfl) ?_
      refine ge_X7_s hx hb hg hown kf_X7_13 hK hP dX7_port_31 ?_
      refine lv_bipush (v := 16) hx hb dX7_port_34 (by decide) ?_
      refine lv_iconst (v := 0) hx hb dX7_port_36 (by decide) ?_
      refine mac_s 16 (by decide) hi hx hb hK hP hS dX7_port_37 (fun H locs hP hS => ?_)
      refine lv_aload_n hx hb dX7_port_38 rfl (lv_at hl 0 rfl) ?_
      refine lv_aload_n hx hb dX7_port_39 rfl (lv_at hl 0 rfl) ?_
      refine ge_X7_on hx hb hg hown kf_X7_55 hK hP dX7_port_40 ?_
      refine lv_if_ne (tgt := 52) hx hb dX7_port_43 (by decide) (fun c11 => ?_) (fun c11 => ?_)
      · have hF := (if_neg c11).symm.trans hF
        have hok := Eq.mp (if_neg c11) hok
        refine lv_iconst (v := 1) hx hb dX7_port_52 (by decide) ?_
        refine lv_goto (tgt := 57) hx hb dX7_port_53 (by decide) ?_
        refine pu_X7_on hi hx hb hg hown kf_X7_55 hK hP hS rfl rfl dX7_port_57 (fun H locs hP hS => ?_)
        exact g_vret hx hb hr hlocks hP hS dX7_port_60 hF
      · have hF := (if_pos c11).symm.trans hF
        have hok := Eq.mp (if_pos c11) hok
        refine lv_iload_n hx hb dX7_port_46 rfl (lv_at hl 1 rfl) ?_
        refine lv_bipush (v := 9) hx hb dX7_port_47 (by decide) ?_
        refine lv_icmp_ne (tgt := 56) hx hb dX7_port_49 (by decide) (fun c12 => ?_) (fun c12 => ?_)
        · have hF := (if_neg c12).symm.trans hF
          have hok := Eq.mp (if_neg c12) hok
          refine lv_iconst (v := 0) hx hb dX7_port_56 (by decide) ?_
          refine pu_X7_on hi hx hb hg hown kf_X7_55 hK hP hS rfl rfl dX7_port_57 (fun H locs hP hS => ?_)
          exact g_vret hx hb hr hlocks hP hS dX7_port_60 hF
        · have hF := (if_pos c12).symm.trans hF
          have hok := Eq.mp (if_pos c12) hok
          refine lv_iconst (v := 1) hx hb dX7_port_52 (by decide) ?_
          refine lv_goto (tgt := 57) hx hb dX7_port_53 (by decide) ?_
          refine pu_X7_on hi hx hb hg hown kf_X7_55 hK hP hS rfl rfl dX7_port_57 (fun H locs hP hS => ?_)
          exact g_vret hx hb hr hlocks hP hS dX7_port_60 hF
  · have hF := (if_pos c1).symm.trans hF
    have hok := Eq.mp (if_pos c1) hok
    exact g_vret hx hb hr hlocks hP hS dX7_port_6 hF
def f_X7_comeBack (u : MS) (p0 : Int32) : MS :=
  let t1 : Int32 := (f_X7_m u (mq_s u 19))
  let r2 : MS := f_X7_grow u (mq_s u 19) 1
  let u3 : MS := ms_s r2 (upd (mq_s r2) 19 (t1 >>> ((4 : Int32) &&& 31)))
  let u4 : MS := ms_s u3 (upd (mq_s u3) 18 (t1 &&& 15))
  let u5 : MS := ms_s u4 (upd (mq_s u4) 21 p0)
  u5
def ok_X7_comeBack (u : MS) (p0 : Int32) : Prop :=
  ok_X7_m u (mq_s u 19) ∧
  let t1 : Int32 := (f_X7_m u (mq_s u 19))
  ok_X7_grow u (mq_s u 19) 1 ∧
  let r2 : MS := f_X7_grow u (mq_s u 19) 1
  let u3 : MS := ms_s r2 (upd (mq_s r2) 19 (t1 >>> ((4 : Int32) &&& 31)))
  let u4 : MS := ms_s u3 (upd (mq_s u3) 18 (t1 &&& 15))
  let u5 : MS := ms_s u4 (upd (mq_s u4) 21 p0)
  True
set_option maxHeartbeats 4000000 in
set_option maxRecDepth 100000 in
theorem c_X7_comeBack (l : Launch) (dC : Nat → ClassId) (dI : Nat → Nat → Nat) (cI cZ : ClassId) (x : Nat → Nat) (hi : g_inj 7 x) (u : MS) (p0 : Int32) (hok : ok_X7_comeBack u p0) : g_Mv l yX7_comeBack (.code yX7_comeBack cX7_comeBack 3 none) { frames := 2, cells := 0, slots := 0, locals := 42 } (dC, dI) vwCl (tysW cI cZ) (wM x cI cZ) (g_bA 7 x) u [.ref (x 0), .int p0] (f_X7_comeBack u p0) := by
  refine Met.ofW (cc := cX7_comeBack) (maxL := 3) (ret := none) (by decide) rfl ?_
  intro p e s m args below meth c s₁ B hml hv
  obtain ⟨rfl, hP, hK⟩ := hv
  have hx := B.exec
  have hb := B.bytes
  have hr := B.returns
  have hts := atoms_spec (ws := .code yX7_comeBack cX7_comeBack 3 none :: gtbl) B.pre
  have hg : ∀ w ∈ gtbl, w.before _ s = true := fun w h => hts w (List.mem_cons_of_mem _ h)
  have hown : s.vm.findClass RX7 = some m.cls := findClass_of_methodNamed B.named
  have hlocks := B.notSynchronized
  have hS : va_S (g_bA 7 x) s.heap s.heap [] := va_S.rf
  have hl := lv_entry ([.ref (x 0), .int p0]) (n := 3) (Nat.le_of_ble_eq_true rfl)
  rw [lg_entry_eq]
  generalize (lg_sl ([.ref (x 0), .int p0]) ++ List.replicate (3 - (lg_sl ([.ref (x 0), .int p0])).length) Slot.unset).toArray = ls at hl ⊢
  have hl : lv_has ls 3 [(0, .ref (x 0)), (1, .int p0)] := hl
  obtain ⟨F, hF⟩ : ∃ F, f_X7_comeBack u p0 = F := ⟨_, rfl⟩
  rw [hF]
  refine lv_aload_n hx hb dX7_comeBack_0 rfl (lv_at hl 0 rfl) ?_
  refine lv_aload_n hx hb dX7_comeBack_1 rfl (lv_at hl 0 rfl) ?_
  refine ge_X7_s hx hb hg hown kf_X7_13 hK hP dX7_comeBack_2 ?_
  refine lv_bipush (v := 19) hx hb dX7_comeBack_5 (by decide) ?_
  refine mlc_s 19 (by decide) hx hb hK hP dX7_comeBack_7 ?_
  obtain ⟨c1, hok⟩ := hok
  refine g_Vi hx hb hml hown hg (c_X7_m l dC dI cI cZ x hi _ _ c1) cs_X7_47 rfl rfl ⟨Nat.le_of_ble_eq_true rfl, Nat.le_of_ble_eq_true rfl⟩ hK hP hS (q0 := 0) rfl rfl rfl hl.1 rfl (Nat.le_of_ble_eq_true rfl) dX7_comeBack_8 ⟨Nat.zero_le _, Nat.zero_le _⟩ (fun H locs hP hS => ?_)
  refine lv_istore_n hx hb dX7_comeBack_11 rfl hl (by decide) rfl (fun ls hl => ?_)
  have hl : lv_has ls 3 [(2, _), (0, _), (1, _)] := hl
  refine lv_aload_n hx hb dX7_comeBack_12 rfl (lv_at hl 1 rfl) ?_
  refine lv_aload_n hx hb dX7_comeBack_13 rfl (lv_at hl 1 rfl) ?_
  refine ge_X7_s hx hb hg hown kf_X7_13 hK hP dX7_comeBack_14 ?_
  refine lv_bipush (v := 19) hx hb dX7_comeBack_17 (by decide) ?_
  refine mlc_s 19 (by decide) hx hb hK hP dX7_comeBack_19 ?_
  refine lv_iconst (v := 1) hx hb dX7_comeBack_20 (by decide) ?_
  obtain ⟨c2, hok⟩ := hok
  refine g_Vv hx hb hml hown hg (c_X7_grow l dC dI cI cZ x hi _ _ _ c2) cs_X7_50 rfl rfl ⟨Nat.le_of_ble_eq_true rfl, Nat.le_of_ble_eq_true rfl⟩ hK hP hS (q0 := 0) rfl rfl rfl hl.1 rfl (Nat.le_of_ble_eq_true rfl) dX7_comeBack_21 ⟨Nat.zero_le _, Nat.zero_le _⟩ (fun H locs hP hS => ?_)
  refine lv_aload_n hx hb dX7_comeBack_24 rfl (lv_at hl 1 rfl) ?_
  refine ge_X7_s hx hb hg hown kf_X7_13 hK hP dX7_comeBack_25 ?_
  refine lv_bipush (v := 19) hx hb dX7_comeBack_28 (by decide) ?_
  refine lv_iload_n hx hb dX7_comeBack_30 rfl (lv_at hl 0 rfl) ?_
  refine lv_iconst (v := 4) hx hb dX7_comeBack_31 (by decide) ?_
  refine lv_ishr hx hb dX7_comeBack_32 ?_
  refine mac_s 19 (by decide) hi hx hb hK hP hS dX7_comeBack_33 (fun H locs hP hS => ?_)
  refine lv_aload_n hx hb dX7_comeBack_34 rfl (lv_at hl 1 rfl) ?_
  refine ge_X7_s hx hb hg hown kf_X7_13 hK hP dX7_comeBack_35 ?_
  refine lv_bipush (v := 18) hx hb dX7_comeBack_38 (by decide) ?_
  refine lv_iload_n hx hb dX7_comeBack_40 rfl (lv_at hl 0 rfl) ?_
  refine lv_bipush (v := 15) hx hb dX7_comeBack_41 (by decide) ?_
  refine lv_iand hx hb dX7_comeBack_43 ?_
  refine mac_s 18 (by decide) hi hx hb hK hP hS dX7_comeBack_44 (fun H locs hP hS => ?_)
  refine lv_aload_n hx hb dX7_comeBack_45 rfl (lv_at hl 1 rfl) ?_
  refine ge_X7_s hx hb hg hown kf_X7_13 hK hP dX7_comeBack_46 ?_
  refine lv_bipush (v := 21) hx hb dX7_comeBack_49 (by decide) ?_
  refine lv_iload_n hx hb dX7_comeBack_51 rfl (lv_at hl 2 rfl) ?_
  refine mac_s 21 (by decide) hi hx hb hK hP hS dX7_comeBack_52 (fun H locs hP hS => ?_)
  exact g_vret hx hb hr hlocks hP hS dX7_comeBack_53 hF
def f_X7_mark (u : MS) : MS :=
  let u1 : MS := ms_s u (upd (mq_s u) 20 (((16 : Int32) * (mq_s u 19)) + (mq_s u 18)))
  let r2 : MS := f_X7_store u1 (mq_s u1 2) (mq_s u1 20)
  let u3 : MS := ms_s r2 (upd (mq_s r2) 19 (mq_s r2 18))
  let r4 : MS := f_X7_grow u3 2 (-1)
  r4
def ok_X7_mark (u : MS) : Prop :=
  let u1 : MS := ms_s u (upd (mq_s u) 20 (((16 : Int32) * (mq_s u 19)) + (mq_s u 18)))
  let r2 : MS := f_X7_store u1 (mq_s u1 2) (mq_s u1 20)
  let u3 : MS := ms_s r2 (upd (mq_s r2) 19 (mq_s r2 18))
  ok_X7_grow u3 2 (-1) ∧
  let r4 : MS := f_X7_grow u3 2 (-1)
  True
set_option maxHeartbeats 4000000 in
set_option maxRecDepth 100000 in
theorem c_X7_mark (l : Launch) (dC : Nat → ClassId) (dI : Nat → Nat → Nat) (cI cZ : ClassId) (x : Nat → Nat) (hi : g_inj 7 x) (u : MS) (hok : ok_X7_mark u) : g_Mv l yX7_mark (.code yX7_mark cX7_mark 1 none) { frames := 1, cells := 0, slots := 0, locals := 22 } (dC, dI) vwCl (tysW cI cZ) (wM x cI cZ) (g_bA 7 x) u [.ref (x 0)] (f_X7_mark u) := by
  refine Met.ofW (cc := cX7_mark) (maxL := 1) (ret := none) (by decide) rfl ?_
  intro p e s m args below meth c s₁ B hml hv
  obtain ⟨rfl, hP, hK⟩ := hv
  have hx := B.exec
  have hb := B.bytes
  have hr := B.returns
  have hts := atoms_spec (ws := .code yX7_mark cX7_mark 1 none :: gtbl) B.pre
  have hg : ∀ w ∈ gtbl, w.before _ s = true := fun w h => hts w (List.mem_cons_of_mem _ h)
  have hown : s.vm.findClass RX7 = some m.cls := findClass_of_methodNamed B.named
  have hlocks := B.notSynchronized
  have hS : va_S (g_bA 7 x) s.heap s.heap [] := va_S.rf
  have hl := lv_entry ([.ref (x 0)]) (n := 1) (Nat.le_of_ble_eq_true rfl)
  rw [lg_entry_eq]
  generalize (lg_sl ([.ref (x 0)]) ++ List.replicate (1 - (lg_sl ([.ref (x 0)])).length) Slot.unset).toArray = ls at hl ⊢
  have hl : lv_has ls 1 [(0, .ref (x 0))] := hl
  obtain ⟨F, hF⟩ : ∃ F, f_X7_mark u = F := ⟨_, rfl⟩
  rw [hF]
  refine lv_aload_n hx hb dX7_mark_0 rfl (lv_at hl 0 rfl) ?_
  refine ge_X7_s hx hb hg hown kf_X7_13 hK hP dX7_mark_1 ?_
  refine lv_bipush (v := 20) hx hb dX7_mark_4 (by decide) ?_
  refine lv_bipush (v := 16) hx hb dX7_mark_6 (by decide) ?_
  refine lv_aload_n hx hb dX7_mark_8 rfl (lv_at hl 0 rfl) ?_
  refine ge_X7_s hx hb hg hown kf_X7_13 hK hP dX7_mark_9 ?_
  refine lv_bipush (v := 19) hx hb dX7_mark_12 (by decide) ?_
  refine mlc_s 19 (by decide) hx hb hK hP dX7_mark_14 ?_
  refine lv_imul hx hb dX7_mark_15 ?_
  refine lv_aload_n hx hb dX7_mark_16 rfl (lv_at hl 0 rfl) ?_
  refine ge_X7_s hx hb hg hown kf_X7_13 hK hP dX7_mark_17 ?_
  refine lv_bipush (v := 18) hx hb dX7_mark_20 (by decide) ?_
  refine mlc_s 18 (by decide) hx hb hK hP dX7_mark_22 ?_
  refine lv_iadd hx hb dX7_mark_23 ?_
  refine mac_s 20 (by decide) hi hx hb hK hP hS dX7_mark_24 (fun H locs hP hS => ?_)
  refine lv_aload_n hx hb dX7_mark_25 rfl (lv_at hl 0 rfl) ?_
  refine lv_aload_n hx hb dX7_mark_26 rfl (lv_at hl 0 rfl) ?_
  refine ge_X7_s hx hb hg hown kf_X7_13 hK hP dX7_mark_27 ?_
  refine lv_iconst (v := 2) hx hb dX7_mark_30 (by decide) ?_
  refine mlc_s 2 (by decide) hx hb hK hP dX7_mark_31 ?_
  refine lv_aload_n hx hb dX7_mark_32 rfl (lv_at hl 0 rfl) ?_
  refine ge_X7_s hx hb hg hown kf_X7_13 hK hP dX7_mark_33 ?_
  refine lv_bipush (v := 20) hx hb dX7_mark_36 (by decide) ?_
  refine mlc_s 20 (by decide) hx hb hK hP dX7_mark_38 ?_
  refine g_Vv hx hb hml hown hg (c_X7_store l dC dI cI cZ x hi _ _ _) cs_X7_79 rfl rfl ⟨Nat.le_of_ble_eq_true rfl, Nat.le_of_ble_eq_true rfl⟩ hK hP hS (q0 := 0) rfl rfl rfl hl.1 rfl (Nat.le_of_ble_eq_true rfl) dX7_mark_39 ⟨Nat.zero_le _, Nat.zero_le _⟩ (fun H locs hP hS => ?_)
  refine lv_aload_n hx hb dX7_mark_42 rfl (lv_at hl 0 rfl) ?_
  refine ge_X7_s hx hb hg hown kf_X7_13 hK hP dX7_mark_43 ?_
  refine lv_bipush (v := 19) hx hb dX7_mark_46 (by decide) ?_
  refine lv_aload_n hx hb dX7_mark_48 rfl (lv_at hl 0 rfl) ?_
  refine ge_X7_s hx hb hg hown kf_X7_13 hK hP dX7_mark_49 ?_
  refine lv_bipush (v := 18) hx hb dX7_mark_52 (by decide) ?_
  refine mlc_s 18 (by decide) hx hb hK hP dX7_mark_54 ?_
  refine mac_s 19 (by decide) hi hx hb hK hP hS dX7_mark_55 (fun H locs hP hS => ?_)
  refine lv_aload_n hx hb dX7_mark_56 rfl (lv_at hl 0 rfl) ?_
  refine lv_iconst (v := 2) hx hb dX7_mark_57 (by decide) ?_
  refine lv_iconst (v := (-1)) hx hb dX7_mark_58 (by decide) ?_
  obtain ⟨c1, hok⟩ := hok
  refine g_Vv hx hb hml hown hg (c_X7_grow l dC dI cI cZ x hi _ _ _ c1) cs_X7_50 rfl rfl ⟨Nat.le_of_ble_eq_true rfl, Nat.le_of_ble_eq_true rfl⟩ hK hP hS (q0 := 0) rfl rfl rfl hl.1 rfl (Nat.le_of_ble_eq_true rfl) dX7_mark_59 ⟨Nat.zero_le _, Nat.zero_le _⟩ (fun H locs hP hS => ?_)
  exact g_vret hx hb hr hlocks hP hS dX7_mark_62 hF
def f_X7_carries (u : MS) (p0 : Int32) (p1 : Int32) : MS :=
  if p0 = 4 then
    let r1 : MS := f_X7_sumOn u p1
    r1
  else
    if p0 = 5 then
      let r2 : MS := f_X7_less u p1 (mq_s u 16) ((1 : Int32) - (mq_s u 17))
      r2
    else
      let r3 : MS := f_X7_less u (mq_s u 16) p1 ((1 : Int32) - (mq_s u 17))
      r3
set_option maxHeartbeats 4000000 in
set_option maxRecDepth 100000 in
theorem c_X7_carries (l : Launch) (dC : Nat → ClassId) (dI : Nat → Nat → Nat) (cI cZ : ClassId) (x : Nat → Nat) (hi : g_inj 7 x) (u : MS) (p0 : Int32) (p1 : Int32) : g_Mv l yX7_carries (.code yX7_carries cX7_carries 3 none) { frames := 1, cells := 0, slots := 0, locals := 24 } (dC, dI) vwCl (tysW cI cZ) (wM x cI cZ) (g_bA 7 x) u [.ref (x 0), .int p0, .int p1] (f_X7_carries u p0 p1) := by
  refine Met.ofW (cc := cX7_carries) (maxL := 3) (ret := none) (by decide) rfl ?_
  intro p e s m args below meth c s₁ B hml hv
  obtain ⟨rfl, hP, hK⟩ := hv
  have hx := B.exec
  have hb := B.bytes
  have hr := B.returns
  have hts := atoms_spec (ws := .code yX7_carries cX7_carries 3 none :: gtbl) B.pre
  have hg : ∀ w ∈ gtbl, w.before _ s = true := fun w h => hts w (List.mem_cons_of_mem _ h)
  have hown : s.vm.findClass RX7 = some m.cls := findClass_of_methodNamed B.named
  have hlocks := B.notSynchronized
  have hS : va_S (g_bA 7 x) s.heap s.heap [] := va_S.rf
  have hl := lv_entry ([.ref (x 0), .int p0, .int p1]) (n := 3) (Nat.le_of_ble_eq_true rfl)
  rw [lg_entry_eq]
  generalize (lg_sl ([.ref (x 0), .int p0, .int p1]) ++ List.replicate (3 - (lg_sl ([.ref (x 0), .int p0, .int p1])).length) Slot.unset).toArray = ls at hl ⊢
  have hl : lv_has ls 3 [(0, .ref (x 0)), (1, .int p0), (2, .int p1)] := hl
  obtain ⟨F, hF⟩ : ∃ F, f_X7_carries u p0 p1 = F := ⟨_, rfl⟩
  rw [hF]
  refine lv_iload_n hx hb dX7_carries_0 rfl (lv_at hl 1 rfl) ?_
  refine lv_iconst (v := 4) hx hb dX7_carries_1 (by decide) ?_
  refine lv_icmp_ne (tgt := 13) hx hb dX7_carries_2 (by decide) (fun c1 => ?_) (fun c1 => ?_)
  · have hF := (if_neg c1).symm.trans hF
    refine lv_iload_n hx hb dX7_carries_13 rfl (lv_at hl 1 rfl) ?_
    refine lv_iconst (v := 5) hx hb dX7_carries_14 (by decide) ?_
    refine lv_icmp_ne (tgt := 42) hx hb dX7_carries_15 (by decide) (fun c2 => ?_) (fun c2 => ?_)
    · have hF := (if_neg c2).symm.trans hF
      refine lv_aload_n hx hb dX7_carries_42 rfl (lv_at hl 0 rfl) ?_
      refine lv_aload_n hx hb dX7_carries_43 rfl (lv_at hl 0 rfl) ?_
      refine ge_X7_s hx hb hg hown kf_X7_13 hK hP dX7_carries_44 ?_
      refine lv_bipush (v := 16) hx hb dX7_carries_47 (by decide) ?_
      refine mlc_s 16 (by decide) hx hb hK hP dX7_carries_49 ?_
      refine lv_iload_n hx hb dX7_carries_50 rfl (lv_at hl 2 rfl) ?_
      refine lv_iconst (v := 1) hx hb dX7_carries_51 (by decide) ?_
      refine lv_aload_n hx hb dX7_carries_52 rfl (lv_at hl 0 rfl) ?_
      refine ge_X7_s hx hb hg hown kf_X7_13 hK hP dX7_carries_53 ?_
      refine lv_bipush (v := 17) hx hb dX7_carries_56 (by decide) ?_
      refine mlc_s 17 (by decide) hx hb hK hP dX7_carries_58 ?_
      refine lv_isub hx hb dX7_carries_59 ?_
      refine g_Vv hx hb hml hown hg (c_X7_less l dC dI cI cZ x hi _ _ _ _) cs_X7_105 rfl rfl ⟨Nat.le_of_ble_eq_true rfl, Nat.le_of_ble_eq_true rfl⟩ hK hP hS (q0 := 0) rfl rfl rfl hl.1 rfl (Nat.le_of_ble_eq_true rfl) dX7_carries_60 ⟨Nat.zero_le _, Nat.zero_le _⟩ (fun H locs hP hS => ?_)
      exact g_vret hx hb hr hlocks hP hS dX7_carries_63 hF
    · have hF := (if_pos c2).symm.trans hF
      refine lv_aload_n hx hb dX7_carries_18 rfl (lv_at hl 0 rfl) ?_
      refine lv_iload_n hx hb dX7_carries_19 rfl (lv_at hl 2 rfl) ?_
      refine lv_aload_n hx hb dX7_carries_20 rfl (lv_at hl 0 rfl) ?_
      refine ge_X7_s hx hb hg hown kf_X7_13 hK hP dX7_carries_21 ?_
      refine lv_bipush (v := 16) hx hb dX7_carries_24 (by decide) ?_
      refine mlc_s 16 (by decide) hx hb hK hP dX7_carries_26 ?_
      refine lv_iconst (v := 1) hx hb dX7_carries_27 (by decide) ?_
      refine lv_aload_n hx hb dX7_carries_28 rfl (lv_at hl 0 rfl) ?_
      refine ge_X7_s hx hb hg hown kf_X7_13 hK hP dX7_carries_29 ?_
      refine lv_bipush (v := 17) hx hb dX7_carries_32 (by decide) ?_
      refine mlc_s 17 (by decide) hx hb hK hP dX7_carries_34 ?_
      refine lv_isub hx hb dX7_carries_35 ?_
      refine g_Vv hx hb hml hown hg (c_X7_less l dC dI cI cZ x hi _ _ _ _) cs_X7_105 rfl rfl ⟨Nat.le_of_ble_eq_true rfl, Nat.le_of_ble_eq_true rfl⟩ hK hP hS (q0 := 0) rfl rfl rfl hl.1 rfl (Nat.le_of_ble_eq_true rfl) dX7_carries_36 ⟨Nat.zero_le _, Nat.zero_le _⟩ (fun H locs hP hS => ?_)
      refine lv_goto (tgt := 63) hx hb dX7_carries_39 (by decide) ?_
      exact g_vret hx hb hr hlocks hP hS dX7_carries_63 hF
  · have hF := (if_pos c1).symm.trans hF
    refine lv_aload_n hx hb dX7_carries_5 rfl (lv_at hl 0 rfl) ?_
    refine lv_iload_n hx hb dX7_carries_6 rfl (lv_at hl 2 rfl) ?_
    refine g_Vv hx hb hml hown hg (c_X7_sumOn l dC dI cI cZ x hi _ _) cs_X7_102 rfl rfl ⟨Nat.le_of_ble_eq_true rfl, Nat.le_of_ble_eq_true rfl⟩ hK hP hS (q0 := 0) rfl rfl rfl hl.1 rfl (Nat.le_of_ble_eq_true rfl) dX7_carries_7 ⟨Nat.zero_le _, Nat.zero_le _⟩ (fun H locs hP hS => ?_)
    refine lv_goto (tgt := 63) hx hb dX7_carries_10 (by decide) ?_
    exact g_vret hx hb hr hlocks hP hS dX7_carries_63 hF
