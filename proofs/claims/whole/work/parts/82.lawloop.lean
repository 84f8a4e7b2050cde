
def R_law : String := "VipBoardLaw"
def lw_P (b : Addr) (xs : List Int32) (args : Array Value) (s : State) : Prop := args = #[.ref b] ∧ s.IntsAt b xs ∧ xs.length ≤ 192 ∧ (Jvm.Cond.and given_1 narrow_1).before args s = true
def lw_Q (_ : Array Value) (s : State) (o : Outcome) (t : State) : Prop := o = .returned (some (.int 1)) ∧ Framed s o t [] 600128 7301098
def lw_Z (below : List Frame) (a : Array Value) (s : State) : State → Prop := fun t => ∃ o, t.status = .running ∧ Ended t below o ∧ lw_Q a s o t
theorem lw_ret {p : Program} {l : Launch} {e : Env} {s : State} {m : MethodId} {below : List Frame} {meth : Method} {c : Code} {b : Nat} (hx : p.tables.exec = Jvm.exec) (hb : c.code = code) (hr : meth.sig.returnType = ret) (hlocks : meth.locks = false) {pc : Nat} {H : Heap} {ls : Array Slot} (hdg : decode code pc = .ok (.ireturn, 1)) : W p l e room_1 s m #[Value.ref b] below meth c H [] 600128 7301098 (lw_Z below #[Value.ref b] s) (F0 m pc ls [.int 1]) := by
  intro T hT X
  obtain ⟨fs, hret, hrun, hended, hW, hframe⟩ := X.leave (v := some (.int 1)) (hlocks := hlocks) (fun h => by rw [hr] at h; cases h)
  have hmeth' : T.vm.method? m = some meth := X.method'
  refine ⟨T.setFrames fs, ?_, .returned (some (.int 1)), hrun, hended, rfl, ⟨_, rfl⟩, hW, hframe⟩
  jvm_step X.here [X.here.top, hx, hb, hdg, hmeth', hr, ret, narrow_b1]
  (try refine ⟨rfl, ?_⟩); (try refine ⟨rfl, ?_⟩)
  first | (intro acts; rw [hret _ acts rfl rfl rfl]) | rw [hret _ _ rfl rfl rfl]
  exact Steps.refl _
def lw_At (p : Program) (s : State) (m : MethodId) (meth : Method) (c : Code) (b L : Nat) (xs : Nat → Int32) : Prop :=
  p.tables.exec = Jvm.exec ∧ c.code = code ∧ meth.sig.returnType = ret ∧ c.maxLocals = 7 ∧ s.vm.findClass R_law = some m.cls ∧ (∀ w ∈ lw_tbl, w.before #[Value.ref b] s = true) ∧ va_X b L xs s s.heap ∧ b < s.heap.size ∧ meth.locks = false ∧ (Jvm.Cond.and given_1 narrow_1).before #[Value.ref b] s = true
theorem kc_0 {z : Option String} (h : kc z = 0) : z = none := by
  cases z with
  | none => rfl
  | some E =>
    simp only [kc] at h
    split at h
    · exact absurd h (by decide)
    · split at h <;> exact absurd h (by decide)
theorem l_go {L k : Nat} (hL : L ≤ 192) (hk : 3 * k ≤ L) (h : ¬ (Int32.ofNat L - 3 < nI (3 * k))) : 3 * k + 3 ≤ L := by
  rcases Nat.lt_or_ge L (3 * k + 3) with q | q
  · refine absurd ?_ h
    have h3 : (Int32.ofNat L - 3).toInt = (L : Int) - 3 := pk_sub_toInt (a := L) (b := 3) (by omega) (by decide)
    have h4 : (nI (3 * k)).toInt = ((3 * k : Nat) : Int) := nI_toInt (by omega)
    rw [Int32.lt_iff_toInt_lt, h3, h4]
    omega
  · exact q
theorem l_in {L k : Nat} (hL : L ≤ 192) (h : 3 * k + 3 ≤ L) : vp_in (nI (3 * k)) L ∧ vp_in (nI (3 * k) + 1) L ∧ vp_in (nI (3 * k) + 2) L :=
  ⟨vp_in_nI (by omega) (by omega), by rw [show nI (3 * k) + 1 = nI (3 * k + 1) from nI_add _ _]; exact vp_in_nI (by omega) (by omega), by rw [show nI (3 * k) + 2 = nI (3 * k + 2) from nI_add _ _]; exact vp_in_nI (by omega) (by omega)⟩
theorem l_3 (k : Nat) : nI (3 * k) + Int32.ofInt 3 = nI (3 * (k + 1)) := nI_add (3 * k) 3
theorem l_cmp {x y : Int64} (h : x = y) : lg_cmp x y = 0 := by
  subst h
  unfold lg_cmp
  simp


theorem l_bool {p : Program} {l : Launch} {e : Env} {R : Room} {s : State} {m : MethodId} {args : Array Value} {below : List Frame} {meth : Method} {c : Code} {H : Heap} {locs : List Loc} {cells slots : Nat} {Q : State → Prop} {cc : ByteArray} {pc tgt : Nat} {off off2 : Int} {ls : Array Slot} {rest : List Value} {bb zz : Int32} (hx : p.tables.exec = Jvm.exec) (hb : c.code = cc) (hz0 : bb = 0 → zz = 0) (hz1 : ¬ bb = 0 → zz = 1)
    (d0 : decode cc pc = .ok (.ifCond .eq off, 3)) (d3 : decode cc (pc + 3) = .ok (.iconst 1, 1)) (d4 : decode cc (pc + 4) = .ok (.goto off2, 3)) (d7 : decode cc tgt = .ok (.iconst 0, 1)) (ht : (pc : Int) + off = (tgt : Int)) (he : ((pc + 4 : Nat) : Int) + off2 = ((tgt + 1 : Nat) : Int)) (kk : W p l e R s m args below meth c H locs cells slots Q (F0 m (tgt + 1) ls (.int zz :: rest))) : W p l e R s m args below meth c H locs cells slots Q (F0 m pc ls (.int bb :: rest)) := by
  refine lv_if_eq (tgt := tgt) hx hb d0 ht (fun c0 => ?_) (fun c0 => ?_)
  · rw [hz0 c0] at kk
    exact lv_iconst (v := 0) hx hb d7 (by decide) kk
  · rw [hz1 c0] at kk
    refine lv_iconst (v := 1) hx hb d3 (by decide) ?_
    exact lv_goto (tgt := tgt + 1) hx hb d4 he kk

set_option maxHeartbeats 8000000 in
set_option maxRecDepth 100000 in
theorem law_loop {p : Program} {l : Launch} {e : Env} {s : State} {m : MethodId} {below : List Frame} {meth : Method} {c : Code} (hst : l.stackTraces = false) {dC : Nat → ClassId} {dI : Nat → Nat → Nat} {cI cZ cL : ClassId} {x y : Nat → Nat} {o : Nat} {sa : Nat → Nat} {b L : Nat} {xs : Nat → Int32} (hL : L ≤ 192) (C0 : lw_At p s m meth c b L xs) (ad : l_ad s x y o) (hK : va_K (dC, dI) vwCl (tys3 cI cZ cL) s) (hxe : xe (l_A s) sa s s.heap) (hnc : va_Nc x_UOE x_IAE s ∧ va_Nc x_ISE x_IAE s ∧ va_Nc x_ISE x_UOE s) :
    ∀ (n k : Nat), 3 * k ≤ L → L < 3 * (k + n) → ∀ (u : BS) (th : Int32) (fo : Nat → Int64) (H : Heap) (locs : List Loc), Inv u → va_P (dC, dI) vwCl (wB x cI cZ u) H → va_P (dC, dI) vwCl (wM y cI cZ (aM th u)) H → va_P (dC, dI) vwCl (wO o cL fo) H → va_S (l_A s) s.heap H locs → ∀ (ls : Array Slot), lv_has ls 7 [(0, .ref b), (1, .ref (x 0)), (2, .ref (y 0)), (3, .ref o), (4, .int (nI (3 * k)))] → W p l e room_1 s m #[Value.ref b] below meth c H locs (30 + k) (7000 + 6 * k) (lw_Z below #[Value.ref b] s) (F0 m 23 ls []) := by
  obtain ⟨hx, hb, hr, hml, hown, hts, hX, hbl, hlocks, hgv⟩ := C0
  have hg : ∀ w ∈ gtbl, w.before #[Value.ref b] s = true := fun w h => hts w (gt_in w h)
  have hbA : ¬ l_A s b := Nat.not_le.mpr hbl
  intro n
  induction n with
  | zero =>
    intro k h1 h2
    exact absurd h2 (by omega)
  | succ n ih =>
    intro k hk hkn u th fo H locs hI hP hM2 hO hS ls hl
    refine lv_iload hx hb dL_law_23 (lv_at hl 4 rfl) ?_
    refine lv_aload_n hx hb dL_law_25 rfl (lv_at hl 0 rfl) ?_
    refine va_slen hx hb hX hbl hbA hS dL_law_26 ?_
    refine lv_iconst (v := 3) hx hb dL_law_27 (by decide) ?_
    refine lv_isub hx hb dL_law_28 ?_
    refine lv_icmp_gt (tgt := 671) hx hb dL_law_29 (by decide) (fun c0 => ?_) (fun c0 => ?_)
    · refine lv_iconst (v := 1) hx hb dL_law_671 (by decide) ?_
      refine va_forget (fun q hq => hS.2.2 q hq) ?_
      refine W.widen (k := 600128) (n := 7301098) (by omega) (by omega) ?_
      exact lw_ret hx hb hr hlocks dL_law_672
    · have hlt : 3 * k + 3 ≤ L := l_go hL hk c0
      obtain ⟨hin0, hin1, hin2⟩ := l_in hL hlt
      have hf0 : 30 + k ≤ room_1.cells ∧ 7000 + 6 * k ≤ room_1.slots := ⟨by show 30 + k ≤ 600128; omega, by show 7000 + 6 * k ≤ 7301098; omega⟩
      have hf1 : 30 + k + 1 ≤ room_1.cells ∧ 7000 + 6 * k + 6 ≤ room_1.slots := ⟨by show 30 + k + 1 ≤ 600128; omega, by show 7000 + 6 * k + 6 ≤ 7301098; omega⟩
      have hf2 : 30 + k + 1 ≤ room_1.cells ∧ 7000 + 6 * k + 6 ≤ room_1.slots := hf1
      have next : ∀ (u : BS) (th : Int32) (fo : Nat → Int64) (H : Heap) (locs : List Loc), Inv u → va_P (dC, dI) vwCl (wB x cI cZ u) H → va_P (dC, dI) vwCl (wM y cI cZ (aM th u)) H → va_P (dC, dI) vwCl (wO o cL fo) H → va_S (l_A s) s.heap H locs → ∀ (ls : Array Slot), lv_has ls 7 [(0, .ref b), (1, .ref (x 0)), (2, .ref (y 0)), (3, .ref o), (4, .int (nI (3 * k)))] → W p l e room_1 s m #[Value.ref b] below meth c H locs (30 + k + 1) (7000 + 6 * k + 6) (lw_Z below #[Value.ref b] s) (F0 m 665 ls []) := by
        intro u th fo H locs hI hP hM2 hO hS ls hl
        refine lv_iinc (v := nI (3 * (k + 1))) hx hb dL_law_665 hl (k := 4) rfl (l_3 k) (by decide) rfl (fun ls hl => ?_)
        have hl : lv_has ls 7 [(4, _), (0, _), (1, _), (2, _), (3, _)] := hl
        refine lv_goto (tgt := 23) hx hb dL_law_668 (by decide) ?_
        refine W.widen (k := 30 + (k + 1)) (n := 7000 + 6 * (k + 1)) (by omega) (by omega) ?_
        exact ih (k + 1) (by omega) (by omega) u th fo H locs hI hP hM2 hO hS ls (lv_sub hl [1, 2, 3, 4, 0] rfl)
      refine lv_aload_n hx hb dL_law_32 rfl (lv_at hl 0 rfl) ?_
      refine lv_iload hx hb dL_law_33 (lv_at hl 4 rfl) ?_
      refine va_sld hx hb hX hbl hbA hS hin0 dL_law_35 ?_
      refine lv_bipush (v := 15) hx hb dL_law_36 (by decide) ?_
      refine lv_iand hx hb dL_law_38 ?_
      obtain ⟨aa, haa⟩ : ∃ z, z = xs (nI (3 * k) + 1).toNatClampNeg := ⟨_, rfl⟩
      obtain ⟨bb, hbb⟩ : ∃ z, z = xs (nI (3 * k) + 2).toNatClampNeg := ⟨_, rfl⟩
      refine sw_case (v := 0) (fun w0 => ?_) (fun w0 => ?_)
      · refine sw_in (off := 57) (tgt := 96) 0 hx hb dL_law_39 w0 (by decide) (by decide) ?_
        obtain ⟨hok7, heq, hI, hE⟩ := sim_poke hI th aa bb
        refine lv_aload_n hx hb dL_law_96 rfl (lv_at hl 1 rfl) ?_
        refine lv_aload_n hx hb dL_law_97 rfl (lv_at hl 0 rfl) ?_
        refine lv_iload hx hb dL_law_98 (lv_at hl 4 rfl) ?_
        refine lv_iconst (v := 1) hx hb dL_law_100 (by decide) ?_
        refine lv_iadd hx hb dL_law_101 ?_
        refine va_sld hx hb hX hbl hbA hS hin1 dL_law_102 ?_
        rw [← haa]
        refine lv_aload_n hx hb dL_law_103 rfl (lv_at hl 0 rfl) ?_
        refine lv_iload hx hb dL_law_104 (lv_at hl 4 rfl) ?_
        refine lv_iconst (v := 2) hx hb dL_law_106 (by decide) ?_
        refine lv_iadd hx hb dL_law_107 ?_
        refine va_sld hx hb hX hbl hbA hS hin2 dL_law_108 ?_
        rw [← hbb]
        refine l_h0 ad hx hb hml hown hg (c_L_poke l hst dC dI cI cZ x ad.1 sa u aa bb hE) (g_cwW (n := 3) hg km_L_56 kt_L_poke kn_L kc_L_poke (by decide) rfl rfl ⟨Nat.le_of_ble_eq_true rfl, Nat.le_of_ble_eq_true rfl⟩) hK hxe hP hM2 hO hS rfl hl.1 rfl (Nat.le_of_ble_eq_true rfl) dL_law_109 hf1 (fun H locs hP hM2 hO hS => ?_)
        refine lv_istore hx hb dL_law_112 hl (by decide) rfl (fun ls hl => ?_)
        have hl : lv_has ls 7 [(5, _), (0, _), (1, _), (2, _), (3, _), (4, _)] := hl
        refine lv_aload_n hx hb dL_law_114 rfl (lv_at hl 3 rfl) ?_
        refine lv_aload_n hx hb dL_law_115 rfl (lv_at hl 1 rfl) ?_
        refine lv_iload hx hb dL_law_116 (lv_at hl 5 rfl) ?_
        refine lv_iconst (v := 1) hx hb dL_law_118 (by decide) ?_
        refine lv_iadd hx hb dL_law_119 ?_
        refine va_sld hx hb hX hbl hbA hS hin1 dL_law_120 ?_
        rw [← haa]
        refine lv_aload_n hx hb dL_law_121 rfl (lv_at hl 1 rfl) ?_
        refine lv_iload hx hb dL_law_122 (lv_at hl 5 rfl) ?_
        refine lv_iconst (v := 2) hx hb dL_law_124 (by decide) ?_
        refine lv_iadd hx hb dL_law_125 ?_
        refine va_sld hx hb hX hbl hbA hS hin2 dL_law_126 ?_
        rw [← hbb]
        have hMc := c_X7_poke l dC dI cI cZ y ad.2.1 (aM th u) aa bb hok7
        rw [heq] at hMc
        try dsimp only at hMc
        refine l_mv ad hx hb hml hown hg hMc cs_L_61 rfl rfl ⟨Nat.le_of_ble_eq_true rfl, Nat.le_of_ble_eq_true rfl⟩ hK hP hM2 hO hS rfl rfl hl.1 rfl (Nat.le_of_ble_eq_true rfl) dL_law_127 hf2 (fun H locs hP hM2 hO hS => ?_)
        refine lv_aload_n hx hb dL_law_130 rfl (lv_at hl 3 rfl) ?_
        refine l_mi ad hx hb hml hown hg (c_X7_thrown l dC dI cI cZ y ad.2.1 _) cs_L_62 rfl rfl ⟨Nat.le_of_ble_eq_true rfl, Nat.le_of_ble_eq_true rfl⟩ hK hP hM2 hO hS rfl rfl hl.1 rfl (Nat.le_of_ble_eq_true rfl) dL_law_131 hf2 (fun H locs hP hM2 hO hS => ?_)
        refine lv_iload hx hb dL_law_134 (lv_at hl 0 rfl) ?_
        refine lv_icmp_eq (tgt := 141) hx hb dL_law_136 (by decide) (fun c1 => ?_) (fun c1 => absurd rfl c1)
        refine lv_goto (tgt := 665) hx hb dL_law_141 (by decide) ?_
        exact next _ _ _ _ _ hI hP hM2 hO hS ls (lv_sub hl [1, 2, 3, 4, 5] rfl)
      refine sw_case (v := 1) (fun w1 => ?_) (fun w1 => ?_)
      · refine sw_in (off := 105) (tgt := 144) 1 hx hb dL_law_39 w1 (by decide) (by decide) ?_
        obtain ⟨hok7, heq⟩ := sim_peek hI th aa
        refine lv_aload_n hx hb dL_law_144 rfl (lv_at hl 1 rfl) ?_
        refine lv_aload_n hx hb dL_law_145 rfl (lv_at hl 0 rfl) ?_
        refine lv_iload hx hb dL_law_146 (lv_at hl 4 rfl) ?_
        refine lv_iconst (v := 1) hx hb dL_law_148 (by decide) ?_
        refine lv_iadd hx hb dL_law_149 ?_
        refine va_sld hx hb hX hbl hbA hS hin1 dL_law_150 ?_
        rw [← haa]
        refine l_bi ad hx hb hml hown hg (c_X6_peek l dC dI cI cZ x ad.1 u aa) cs_L_66 rfl rfl ⟨Nat.le_of_ble_eq_true rfl, Nat.le_of_ble_eq_true rfl⟩ hK hP hM2 hO hS rfl rfl hl.1 rfl (Nat.le_of_ble_eq_true rfl) dL_law_151 hf0 (fun H locs hP hM2 hO hS => ?_)
        refine lv_aload_n hx hb dL_law_154 rfl (lv_at hl 2 rfl) ?_
        refine lv_aload_n hx hb dL_law_155 rfl (lv_at hl 0 rfl) ?_
        refine lv_iload hx hb dL_law_156 (lv_at hl 4 rfl) ?_
        refine lv_iconst (v := 1) hx hb dL_law_158 (by decide) ?_
        refine lv_iadd hx hb dL_law_159 ?_
        refine va_sld hx hb hX hbl hbA hS hin1 dL_law_160 ?_
        rw [← haa]
        have hMc := c_X7_peek l dC dI cI cZ y ad.2.1 (aM th u) aa hok7
        rw [heq] at hMc
        try dsimp only at hMc
        refine l_mi ad hx hb hml hown hg hMc cs_L_69 rfl rfl ⟨Nat.le_of_ble_eq_true rfl, Nat.le_of_ble_eq_true rfl⟩ hK hP hM2 hO hS rfl rfl hl.1 rfl (Nat.le_of_ble_eq_true rfl) dL_law_161 hf0 (fun H locs hP hM2 hO hS => ?_)
        refine lv_icmp_eq (tgt := 665) hx hb dL_law_164 (by decide) (fun c1 => ?_) (fun c1 => absurd rfl c1)
        refine W.widen (k := 30 + k + 1) (n := 7000 + 6 * k + 6) (by omega) (by omega) ?_
        exact next _ _ _ _ _ hI hP hM2 hO hS ls (lv_sub hl [0, 1, 2, 3, 4] rfl)
      refine sw_case (v := 2) (fun w2 => ?_) (fun w2 => ?_)
      · refine sw_in (off := 130) (tgt := 169) 2 hx hb dL_law_39 w2 (by decide) (by decide) ?_
        obtain ⟨hok7, ⟨rr, heq, hval⟩, hI, hE⟩ := sim_cpu hI th aa
        refine lv_aload_n hx hb dL_law_169 rfl (lv_at hl 1 rfl) ?_
        refine lv_aload_n hx hb dL_law_170 rfl (lv_at hl 0 rfl) ?_
        refine lv_iload hx hb dL_law_171 (lv_at hl 4 rfl) ?_
        refine lv_iconst (v := 1) hx hb dL_law_173 (by decide) ?_
        refine lv_iadd hx hb dL_law_174 ?_
        refine va_sld hx hb hX hbl hbA hS hin1 dL_law_175 ?_
        rw [← haa]
        refine lv_aload_n hx hb dL_law_176 rfl (lv_at hl 3 rfl) ?_
        refine l_h1 (F := f_X6_cpu u aa) (EX := fun _ => True) (fun _ _ => trivial) (fun _ _ _ _ _ => trivial) ad hx hb hml hown hg (c_L_cpu l hst dC dI cI cZ cL x ad.1 sa u o ad.2.2.2.2.2.2.1 fo aa hE) (g_cwW (n := 3) hg km_L_70 kt_L_cpu kn_L kc_L_cpu (by decide) rfl rfl ⟨Nat.le_of_ble_eq_true rfl, Nat.le_of_ble_eq_true rfl⟩) hK hxe hP hM2 hO hS rfl hl.1 rfl (Nat.le_of_ble_eq_true rfl) dL_law_177 hf1 (fun fo H locs hfo hP hM2 hO hS => ?_)
        refine lv_istore hx hb dL_law_180 hl (by decide) rfl (fun ls hl => ?_)
        have hl : lv_has ls 7 [(5, _), (0, _), (1, _), (2, _), (3, _), (4, _)] := hl
        refine lv_aload_n hx hb dL_law_182 rfl (lv_at hl 3 rfl) ?_
        refine lv_aload_n hx hb dL_law_183 rfl (lv_at hl 1 rfl) ?_
        refine lv_iload hx hb dL_law_184 (lv_at hl 5 rfl) ?_
        refine lv_iconst (v := 1) hx hb dL_law_186 (by decide) ?_
        refine lv_iadd hx hb dL_law_187 ?_
        refine va_sld hx hb hX hbl hbA hS hin1 dL_law_188 ?_
        rw [← haa]
        have hMc := c_X7_cpu l dC dI cI cZ y ad.2.1 (aM th u) aa hok7
        rw [heq] at hMc
        try dsimp only at hMc
        refine l_mi ad hx hb hml hown hg hMc cs_L_73 rfl rfl ⟨Nat.le_of_ble_eq_true rfl, Nat.le_of_ble_eq_true rfl⟩ hK hP hM2 hO hS rfl rfl hl.1 rfl (Nat.le_of_ble_eq_true rfl) dL_law_189 hf2 (fun H locs hP hM2 hO hS => ?_)
        refine lv_istore hx hb dL_law_192 hl (by decide) rfl (fun ls hl => ?_)
        have hl : lv_has ls 7 [(6, _), (5, _), (0, _), (1, _), (2, _), (3, _), (4, _)] := hl
        refine lv_aload_n hx hb dL_law_194 rfl (lv_at hl 4 rfl) ?_
        refine l_mi ad hx hb hml hown hg (c_X7_thrown l dC dI cI cZ y ad.2.1 _) cs_L_62 rfl rfl ⟨Nat.le_of_ble_eq_true rfl, Nat.le_of_ble_eq_true rfl⟩ hK hP hM2 hO hS rfl rfl hl.1 rfl (Nat.le_of_ble_eq_true rfl) dL_law_195 hf2 (fun H locs hP hM2 hO hS => ?_)
        refine lv_iload hx hb dL_law_198 (lv_at hl 1 rfl) ?_
        refine lv_icmp_eq (tgt := 205) hx hb dL_law_200 (by decide) (fun c1 => ?_) (fun c1 => absurd rfl c1)
        refine lv_iload hx hb dL_law_205 (lv_at hl 1 rfl) ?_
        refine lv_if_ne (tgt := 222) hx hb dL_law_207 (by decide) (fun c2 => ?_) (fun c2 => ?_)
        · refine lv_goto (tgt := 665) hx hb dL_law_222 (by decide) ?_
          exact next _ _ _ _ _ hI hP hM2 hO hS ls (lv_sub hl [2, 3, 4, 5, 6] rfl)
        refine lv_aload_n hx hb dL_law_210 rfl (lv_at hl 5 rfl) ?_
        refine lv_iconst (v := 0) hx hb dL_law_211 (by decide) ?_
        refine va_lald (D := (dC, dI)) hx hb hK hO 0 2 rfl rfl (i := 0) (by unfold vp_in; decide) dL_law_212 ?_
        refine lv_iload hx hb dL_law_213 (lv_at hl 0 rfl) ?_
        refine lv_i2l hx hb dL_law_215 rfl ?_
        refine W.lcmp hx hb dL_law_216 ?_
        refine lv_if_eq (tgt := 222) hx hb dL_law_217 (by decide) (fun c3 => ?_) (fun c3 => absurd (l_cmp (show fo 0 = rr.toInt64 from (hfo (kc_0 c2)).trans (by rw [hval (kc_0 c2)]))) c3)
        refine lv_goto (tgt := 665) hx hb dL_law_222 (by decide) ?_
        exact next _ _ _ _ _ hI hP hM2 hO hS ls (lv_sub hl [2, 3, 4, 5, 6] rfl)
      refine sw_case (v := 3) (fun w3 => ?_) (fun w3 => ?_)
      · refine sw_in (off := 186) (tgt := 225) 3 hx hb dL_law_39 w3 (by decide) (by decide) ?_
        obtain ⟨hok7, heq, hI, hE⟩ := sim_set hI th aa bb
        refine lv_aload_n hx hb dL_law_225 rfl (lv_at hl 1 rfl) ?_
        refine lv_aload_n hx hb dL_law_226 rfl (lv_at hl 0 rfl) ?_
        refine lv_iload hx hb dL_law_227 (lv_at hl 4 rfl) ?_
        refine lv_iconst (v := 1) hx hb dL_law_229 (by decide) ?_
        refine lv_iadd hx hb dL_law_230 ?_
        refine va_sld hx hb hX hbl hbA hS hin1 dL_law_231 ?_
        rw [← haa]
        refine lv_aload_n hx hb dL_law_232 rfl (lv_at hl 0 rfl) ?_
        refine lv_iload hx hb dL_law_233 (lv_at hl 4 rfl) ?_
        refine lv_iconst (v := 2) hx hb dL_law_235 (by decide) ?_
        refine lv_iadd hx hb dL_law_236 ?_
        refine va_sld hx hb hX hbl hbA hS hin2 dL_law_237 ?_
        rw [← hbb]
        refine l_h0 ad hx hb hml hown hg (c_L_set l hst dC dI cI cZ x ad.1 sa u aa bb hE) (g_cwW (n := 3) hg km_L_74 kt_L_set kn_L kc_L_set (by decide) rfl rfl ⟨Nat.le_of_ble_eq_true rfl, Nat.le_of_ble_eq_true rfl⟩) hK hxe hP hM2 hO hS rfl hl.1 rfl (Nat.le_of_ble_eq_true rfl) dL_law_238 hf1 (fun H locs hP hM2 hO hS => ?_)
        refine lv_istore hx hb dL_law_241 hl (by decide) rfl (fun ls hl => ?_)
        have hl : lv_has ls 7 [(5, _), (0, _), (1, _), (2, _), (3, _), (4, _)] := hl
        refine lv_aload_n hx hb dL_law_243 rfl (lv_at hl 3 rfl) ?_
        refine lv_aload_n hx hb dL_law_244 rfl (lv_at hl 1 rfl) ?_
        refine lv_iload hx hb dL_law_245 (lv_at hl 5 rfl) ?_
        refine lv_iconst (v := 1) hx hb dL_law_247 (by decide) ?_
        refine lv_iadd hx hb dL_law_248 ?_
        refine va_sld hx hb hX hbl hbA hS hin1 dL_law_249 ?_
        rw [← haa]
        refine lv_aload_n hx hb dL_law_250 rfl (lv_at hl 1 rfl) ?_
        refine lv_iload hx hb dL_law_251 (lv_at hl 5 rfl) ?_
        refine lv_iconst (v := 2) hx hb dL_law_253 (by decide) ?_
        refine lv_iadd hx hb dL_law_254 ?_
        refine va_sld hx hb hX hbl hbA hS hin2 dL_law_255 ?_
        rw [← hbb]
        have hMc := c_X7_set l dC dI cI cZ y ad.2.1 (aM th u) aa bb hok7
        rw [heq] at hMc
        try dsimp only at hMc
        refine l_mv ad hx hb hml hown hg hMc cs_L_76 rfl rfl ⟨Nat.le_of_ble_eq_true rfl, Nat.le_of_ble_eq_true rfl⟩ hK hP hM2 hO hS rfl rfl hl.1 rfl (Nat.le_of_ble_eq_true rfl) dL_law_256 hf2 (fun H locs hP hM2 hO hS => ?_)
        refine lv_aload_n hx hb dL_law_259 rfl (lv_at hl 3 rfl) ?_
        refine l_mi ad hx hb hml hown hg (c_X7_thrown l dC dI cI cZ y ad.2.1 _) cs_L_62 rfl rfl ⟨Nat.le_of_ble_eq_true rfl, Nat.le_of_ble_eq_true rfl⟩ hK hP hM2 hO hS rfl rfl hl.1 rfl (Nat.le_of_ble_eq_true rfl) dL_law_260 hf2 (fun H locs hP hM2 hO hS => ?_)
        refine lv_iload hx hb dL_law_263 (lv_at hl 0 rfl) ?_
        refine lv_icmp_eq (tgt := 270) hx hb dL_law_265 (by decide) (fun c1 => ?_) (fun c1 => absurd rfl c1)
        refine lv_goto (tgt := 665) hx hb dL_law_270 (by decide) ?_
        exact next _ _ _ _ _ hI hP hM2 hO hS ls (lv_sub hl [1, 2, 3, 4, 5] rfl)
      refine sw_case (v := 4) (fun w4 => ?_) (fun w4 => ?_)
      · refine sw_in (off := 234) (tgt := 273) 4 hx hb dL_law_39 w4 (by decide) (by decide) ?_
        obtain ⟨zz, hzz, hz0, hz1⟩ : ∃ zz : Int32, (zz = 0 ∨ zz = 1) ∧ (bb = 0 → zz = 0) ∧ (¬ bb = 0 → zz = 1) := by
          by_cases hb0 : bb = 0
          · exact ⟨0, Or.inl rfl, fun _ => rfl, fun h => absurd hb0 h⟩
          · exact ⟨1, Or.inr rfl, fun h => absurd h hb0, fun _ => rfl⟩
        obtain ⟨hok7, heq, hI, hE⟩ := sim_key hI th aa zz hzz
        refine lv_aload_n hx hb dL_law_273 rfl (lv_at hl 1 rfl) ?_
        refine lv_aload_n hx hb dL_law_274 rfl (lv_at hl 0 rfl) ?_
        refine lv_iload hx hb dL_law_275 (lv_at hl 4 rfl) ?_
        refine lv_iconst (v := 1) hx hb dL_law_277 (by decide) ?_
        refine lv_iadd hx hb dL_law_278 ?_
        refine va_sld hx hb hX hbl hbA hS hin1 dL_law_279 ?_
        rw [← haa]
        refine lv_aload_n hx hb dL_law_280 rfl (lv_at hl 0 rfl) ?_
        refine lv_iload hx hb dL_law_281 (lv_at hl 4 rfl) ?_
        refine lv_iconst (v := 2) hx hb dL_law_283 (by decide) ?_
        refine lv_iadd hx hb dL_law_284 ?_
        refine va_sld hx hb hX hbl hbA hS hin2 dL_law_285 ?_
        rw [← hbb]
        refine l_bool (tgt := 293) hx hb hz0 hz1 dL_law_286 dL_law_289 dL_law_290 dL_law_293 (by decide) (by decide) ?_
        refine l_h0 ad hx hb hml hown hg (c_L_key l hst dC dI cI cZ x ad.1 sa u aa zz hE) (g_cwW (n := 3) hg km_L_77 kt_L_key kn_L kc_L_key (by decide) rfl rfl ⟨Nat.le_of_ble_eq_true rfl, Nat.le_of_ble_eq_true rfl⟩) hK hxe hP hM2 hO hS rfl hl.1 rfl (Nat.le_of_ble_eq_true rfl) dL_law_294 hf1 (fun H locs hP hM2 hO hS => ?_)
        refine lv_istore hx hb dL_law_297 hl (by decide) rfl (fun ls hl => ?_)
        have hl : lv_has ls 7 [(5, _), (0, _), (1, _), (2, _), (3, _), (4, _)] := hl
        refine lv_aload_n hx hb dL_law_299 rfl (lv_at hl 3 rfl) ?_
        refine lv_aload_n hx hb dL_law_300 rfl (lv_at hl 1 rfl) ?_
        refine lv_iload hx hb dL_law_301 (lv_at hl 5 rfl) ?_
        refine lv_iconst (v := 1) hx hb dL_law_303 (by decide) ?_
        refine lv_iadd hx hb dL_law_304 ?_
        refine va_sld hx hb hX hbl hbA hS hin1 dL_law_305 ?_
        rw [← haa]
        refine lv_aload_n hx hb dL_law_306 rfl (lv_at hl 1 rfl) ?_
        refine lv_iload hx hb dL_law_307 (lv_at hl 5 rfl) ?_
        refine lv_iconst (v := 2) hx hb dL_law_309 (by decide) ?_
        refine lv_iadd hx hb dL_law_310 ?_
        refine va_sld hx hb hX hbl hbA hS hin2 dL_law_311 ?_
        rw [← hbb]
        refine l_bool (tgt := 319) hx hb hz0 hz1 dL_law_312 dL_law_315 dL_law_316 dL_law_319 (by decide) (by decide) ?_
        have hMc := c_X7_key l dC dI cI cZ y ad.2.1 (aM th u) aa zz hok7
        rw [heq] at hMc
        try dsimp only at hMc
        refine l_mv ad hx hb hml hown hg hMc cs_L_80 rfl rfl ⟨Nat.le_of_ble_eq_true rfl, Nat.le_of_ble_eq_true rfl⟩ hK hP hM2 hO hS rfl rfl hl.1 rfl (Nat.le_of_ble_eq_true rfl) dL_law_320 hf2 (fun H locs hP hM2 hO hS => ?_)
        refine lv_aload_n hx hb dL_law_323 rfl (lv_at hl 3 rfl) ?_
        refine l_mi ad hx hb hml hown hg (c_X7_thrown l dC dI cI cZ y ad.2.1 _) cs_L_62 rfl rfl ⟨Nat.le_of_ble_eq_true rfl, Nat.le_of_ble_eq_true rfl⟩ hK hP hM2 hO hS rfl rfl hl.1 rfl (Nat.le_of_ble_eq_true rfl) dL_law_324 hf2 (fun H locs hP hM2 hO hS => ?_)
        refine lv_iload hx hb dL_law_327 (lv_at hl 0 rfl) ?_
        refine lv_icmp_eq (tgt := 334) hx hb dL_law_329 (by decide) (fun c1 => ?_) (fun c1 => absurd rfl c1)
        refine lv_goto (tgt := 665) hx hb dL_law_334 (by decide) ?_
        exact next _ _ _ _ _ hI hP hM2 hO hS ls (lv_sub hl [1, 2, 3, 4, 5] rfl)
      refine sw_case (v := 5) (fun w5 => ?_) (fun w5 => ?_)
      · refine sw_in (off := 298) (tgt := 337) 5 hx hb dL_law_39 w5 (by decide) (by decide) ?_
        obtain ⟨hok6, hok7, ⟨rr, heq, hval⟩, hI, hE⟩ := sim_run hI th aa
        refine lv_aload_n hx hb dL_law_337 rfl (lv_at hl 1 rfl) ?_
        refine lv_aload_n hx hb dL_law_338 rfl (lv_at hl 0 rfl) ?_
        refine lv_iload hx hb dL_law_339 (lv_at hl 4 rfl) ?_
        refine lv_iconst (v := 1) hx hb dL_law_341 (by decide) ?_
        refine lv_iadd hx hb dL_law_342 ?_
        refine va_sld hx hb hX hbl hbA hS hin1 dL_law_343 ?_
        rw [← haa]
        refine lv_aload_n hx hb dL_law_344 rfl (lv_at hl 3 rfl) ?_
        refine l_h1 (F := f_X6_run u aa) (EX := fun _ => True) (fun _ _ => trivial) (fun _ _ _ _ _ => trivial) ad hx hb hml hown hg (c_L_run l hst dC dI cI cZ cL x ad.1 sa u o ad.2.2.2.2.2.2.1 fo aa hok6 hE) (g_cwW (n := 3) hg km_L_81 kt_L_run kn_L kc_L_run (by decide) rfl rfl ⟨Nat.le_of_ble_eq_true rfl, Nat.le_of_ble_eq_true rfl⟩) hK hxe hP hM2 hO hS rfl hl.1 rfl (Nat.le_of_ble_eq_true rfl) dL_law_345 hf1 (fun fo H locs hfo hP hM2 hO hS => ?_)
        refine lv_istore hx hb dL_law_348 hl (by decide) rfl (fun ls hl => ?_)
        have hl : lv_has ls 7 [(5, _), (0, _), (1, _), (2, _), (3, _), (4, _)] := hl
        refine lv_aload_n hx hb dL_law_350 rfl (lv_at hl 3 rfl) ?_
        refine lv_aload_n hx hb dL_law_351 rfl (lv_at hl 1 rfl) ?_
        refine lv_iload hx hb dL_law_352 (lv_at hl 5 rfl) ?_
        refine lv_iconst (v := 1) hx hb dL_law_354 (by decide) ?_
        refine lv_iadd hx hb dL_law_355 ?_
        refine va_sld hx hb hX hbl hbA hS hin1 dL_law_356 ?_
        rw [← haa]
        have hMc := c_X7_run l dC dI cI cZ y ad.2.1 (aM th u) aa hok7
        rw [heq] at hMc
        try dsimp only at hMc
        refine l_mi ad hx hb hml hown hg hMc cs_L_83 rfl rfl ⟨Nat.le_of_ble_eq_true rfl, Nat.le_of_ble_eq_true rfl⟩ hK hP hM2 hO hS rfl rfl hl.1 rfl (Nat.le_of_ble_eq_true rfl) dL_law_357 hf2 (fun H locs hP hM2 hO hS => ?_)
        refine lv_istore hx hb dL_law_360 hl (by decide) rfl (fun ls hl => ?_)
        have hl : lv_has ls 7 [(6, _), (5, _), (0, _), (1, _), (2, _), (3, _), (4, _)] := hl
        refine lv_aload_n hx hb dL_law_362 rfl (lv_at hl 4 rfl) ?_
        refine l_mi ad hx hb hml hown hg (c_X7_thrown l dC dI cI cZ y ad.2.1 _) cs_L_62 rfl rfl ⟨Nat.le_of_ble_eq_true rfl, Nat.le_of_ble_eq_true rfl⟩ hK hP hM2 hO hS rfl rfl hl.1 rfl (Nat.le_of_ble_eq_true rfl) dL_law_363 hf2 (fun H locs hP hM2 hO hS => ?_)
        refine lv_iload hx hb dL_law_366 (lv_at hl 1 rfl) ?_
        refine lv_icmp_eq (tgt := 373) hx hb dL_law_368 (by decide) (fun c1 => ?_) (fun c1 => absurd rfl c1)
        refine lv_iload hx hb dL_law_373 (lv_at hl 1 rfl) ?_
        refine lv_if_ne (tgt := 390) hx hb dL_law_375 (by decide) (fun c2 => ?_) (fun c2 => ?_)
        · refine lv_goto (tgt := 665) hx hb dL_law_390 (by decide) ?_
          exact next _ _ _ _ _ hI hP hM2 hO hS ls (lv_sub hl [2, 3, 4, 5, 6] rfl)
        refine lv_aload_n hx hb dL_law_378 rfl (lv_at hl 5 rfl) ?_
        refine lv_iconst (v := 0) hx hb dL_law_379 (by decide) ?_
        refine va_lald (D := (dC, dI)) hx hb hK hO 0 2 rfl rfl (i := 0) (by unfold vp_in; decide) dL_law_380 ?_
        refine lv_iload hx hb dL_law_381 (lv_at hl 0 rfl) ?_
        refine lv_i2l hx hb dL_law_383 rfl ?_
        refine W.lcmp hx hb dL_law_384 ?_
        refine lv_if_eq (tgt := 390) hx hb dL_law_385 (by decide) (fun c3 => ?_) (fun c3 => absurd (l_cmp (show fo 0 = rr.toInt64 from (hfo (kc_0 c2)).trans (by rw [hval (kc_0 c2)]))) c3)
        refine lv_goto (tgt := 665) hx hb dL_law_390 (by decide) ?_
        exact next _ _ _ _ _ hI hP hM2 hO hS ls (lv_sub hl [2, 3, 4, 5, 6] rfl)
      refine sw_case (v := 6) (fun w6 => ?_) (fun w6 => ?_)
      · refine sw_in (off := 354) (tgt := 393) 6 hx hb dL_law_39 w6 (by decide) (by decide) ?_
        obtain ⟨⟨rr, heq, hval⟩, hI, hE⟩ := sim_video hI th aa
        refine lv_aload_n hx hb dL_law_393 rfl (lv_at hl 1 rfl) ?_
        refine lv_aload_n hx hb dL_law_394 rfl (lv_at hl 0 rfl) ?_
        refine lv_iload hx hb dL_law_395 (lv_at hl 4 rfl) ?_
        refine lv_iconst (v := 1) hx hb dL_law_397 (by decide) ?_
        refine lv_iadd hx hb dL_law_398 ?_
        refine va_sld hx hb hX hbl hbA hS hin1 dL_law_399 ?_
        rw [← haa]
        refine lv_aload_n hx hb dL_law_400 rfl (lv_at hl 3 rfl) ?_
        refine l_h1 (F := f_X6_video u aa) (EX := fun _ => True) (fun _ _ => trivial) (fun _ _ _ _ _ => trivial) ad hx hb hml hown hg (c_L_video l hst dC dI cI cZ cL x ad.1 sa u o ad.2.2.2.2.2.2.1 fo aa hE) (g_cwW (n := 3) hg km_L_84 kt_L_video kn_L kc_L_video (by decide) rfl rfl ⟨Nat.le_of_ble_eq_true rfl, Nat.le_of_ble_eq_true rfl⟩) hK hxe hP hM2 hO hS rfl hl.1 rfl (Nat.le_of_ble_eq_true rfl) dL_law_401 hf1 (fun fo H locs hfo hP hM2 hO hS => ?_)
        refine lv_istore hx hb dL_law_404 hl (by decide) rfl (fun ls hl => ?_)
        have hl : lv_has ls 7 [(5, _), (0, _), (1, _), (2, _), (3, _), (4, _)] := hl
        refine lv_aload_n hx hb dL_law_406 rfl (lv_at hl 3 rfl) ?_
        refine lv_aload_n hx hb dL_law_407 rfl (lv_at hl 1 rfl) ?_
        refine lv_iload hx hb dL_law_408 (lv_at hl 5 rfl) ?_
        refine lv_iconst (v := 1) hx hb dL_law_410 (by decide) ?_
        refine lv_iadd hx hb dL_law_411 ?_
        refine va_sld hx hb hX hbl hbA hS hin1 dL_law_412 ?_
        rw [← haa]
        have hMc := c_X7_video l dC dI cI cZ y ad.2.1 (aM th u) aa
        rw [heq] at hMc
        try dsimp only at hMc
        refine l_mi ad hx hb hml hown hg hMc cs_L_86 rfl rfl ⟨Nat.le_of_ble_eq_true rfl, Nat.le_of_ble_eq_true rfl⟩ hK hP hM2 hO hS rfl rfl hl.1 rfl (Nat.le_of_ble_eq_true rfl) dL_law_413 hf2 (fun H locs hP hM2 hO hS => ?_)
        refine lv_istore hx hb dL_law_416 hl (by decide) rfl (fun ls hl => ?_)
        have hl : lv_has ls 7 [(6, _), (5, _), (0, _), (1, _), (2, _), (3, _), (4, _)] := hl
        refine lv_aload_n hx hb dL_law_418 rfl (lv_at hl 4 rfl) ?_
        refine l_mi ad hx hb hml hown hg (c_X7_thrown l dC dI cI cZ y ad.2.1 _) cs_L_62 rfl rfl ⟨Nat.le_of_ble_eq_true rfl, Nat.le_of_ble_eq_true rfl⟩ hK hP hM2 hO hS rfl rfl hl.1 rfl (Nat.le_of_ble_eq_true rfl) dL_law_419 hf2 (fun H locs hP hM2 hO hS => ?_)
        refine lv_iload hx hb dL_law_422 (lv_at hl 1 rfl) ?_
        refine lv_icmp_eq (tgt := 429) hx hb dL_law_424 (by decide) (fun c1 => ?_) (fun c1 => absurd rfl c1)
        refine lv_iload hx hb dL_law_429 (lv_at hl 1 rfl) ?_
        refine lv_if_ne (tgt := 446) hx hb dL_law_431 (by decide) (fun c2 => ?_) (fun c2 => ?_)
        · refine lv_goto (tgt := 665) hx hb dL_law_446 (by decide) ?_
          exact next _ _ _ _ _ hI hP hM2 hO hS ls (lv_sub hl [2, 3, 4, 5, 6] rfl)
        refine lv_aload_n hx hb dL_law_434 rfl (lv_at hl 5 rfl) ?_
        refine lv_iconst (v := 0) hx hb dL_law_435 (by decide) ?_
        refine va_lald (D := (dC, dI)) hx hb hK hO 0 2 rfl rfl (i := 0) (by unfold vp_in; decide) dL_law_436 ?_
        refine lv_iload hx hb dL_law_437 (lv_at hl 0 rfl) ?_
        refine lv_i2l hx hb dL_law_439 rfl ?_
        refine W.lcmp hx hb dL_law_440 ?_
        refine lv_if_eq (tgt := 446) hx hb dL_law_441 (by decide) (fun c3 => ?_) (fun c3 => absurd (l_cmp (show fo 0 = rr.toInt64 from (hfo (kc_0 c2)).trans (by rw [hval (kc_0 c2)]))) c3)
        refine lv_goto (tgt := 665) hx hb dL_law_446 (by decide) ?_
        exact next _ _ _ _ _ hI hP hM2 hO hS ls (lv_sub hl [2, 3, 4, 5, 6] rfl)
      refine sw_case (v := 7) (fun w7 => ?_) (fun w7 => ?_)
      · refine sw_in (off := 410) (tgt := 449) 7 hx hb dL_law_39 w7 (by decide) (by decide) ?_
        obtain ⟨hok6, hok7, ⟨rr, heq, hval⟩, hI, hE⟩ := sim_shown hI th aa bb
        refine lv_aload_n hx hb dL_law_449 rfl (lv_at hl 1 rfl) ?_
        refine lv_aload_n hx hb dL_law_450 rfl (lv_at hl 0 rfl) ?_
        refine lv_iload hx hb dL_law_451 (lv_at hl 4 rfl) ?_
        refine lv_iconst (v := 1) hx hb dL_law_453 (by decide) ?_
        refine lv_iadd hx hb dL_law_454 ?_
        refine va_sld hx hb hX hbl hbA hS hin1 dL_law_455 ?_
        rw [← haa]
        refine lv_aload_n hx hb dL_law_456 rfl (lv_at hl 0 rfl) ?_
        refine lv_iload hx hb dL_law_457 (lv_at hl 4 rfl) ?_
        refine lv_iconst (v := 2) hx hb dL_law_459 (by decide) ?_
        refine lv_iadd hx hb dL_law_460 ?_
        refine va_sld hx hb hX hbl hbA hS hin2 dL_law_461 ?_
        rw [← hbb]
        refine lv_aload_n hx hb dL_law_462 rfl (lv_at hl 3 rfl) ?_
        refine l_h1 (F := f_X6_shown u aa bb) (EX := fun _ => True) (fun _ _ => trivial) (fun _ _ _ _ _ => trivial) ad hx hb hml hown hg (c_L_shown l hst dC dI cI cZ cL x ad.1 sa u o ad.2.2.2.2.2.2.1 fo aa bb hok6 hE) (g_cwW (n := 4) hg km_L_87 kt_L_shown kn_L kc_L_shown (by decide) rfl rfl ⟨Nat.le_of_ble_eq_true rfl, Nat.le_of_ble_eq_true rfl⟩) hK hxe hP hM2 hO hS rfl hl.1 rfl (Nat.le_of_ble_eq_true rfl) dL_law_463 hf1 (fun fo H locs hfo hP hM2 hO hS => ?_)
        refine lv_istore hx hb dL_law_466 hl (by decide) rfl (fun ls hl => ?_)
        have hl : lv_has ls 7 [(5, _), (0, _), (1, _), (2, _), (3, _), (4, _)] := hl
        refine lv_aload_n hx hb dL_law_468 rfl (lv_at hl 3 rfl) ?_
        refine lv_aload_n hx hb dL_law_469 rfl (lv_at hl 1 rfl) ?_
        refine lv_iload hx hb dL_law_470 (lv_at hl 5 rfl) ?_
        refine lv_iconst (v := 1) hx hb dL_law_472 (by decide) ?_
        refine lv_iadd hx hb dL_law_473 ?_
        refine va_sld hx hb hX hbl hbA hS hin1 dL_law_474 ?_
        rw [← haa]
        refine lv_aload_n hx hb dL_law_475 rfl (lv_at hl 1 rfl) ?_
        refine lv_iload hx hb dL_law_476 (lv_at hl 5 rfl) ?_
        refine lv_iconst (v := 2) hx hb dL_law_478 (by decide) ?_
        refine lv_iadd hx hb dL_law_479 ?_
        refine va_sld hx hb hX hbl hbA hS hin2 dL_law_480 ?_
        rw [← hbb]
        have hMc := c_X7_shown l dC dI cI cZ y ad.2.1 (aM th u) aa bb hok7
        rw [heq] at hMc
        try dsimp only at hMc
        refine l_mi ad hx hb hml hown hg hMc cs_L_90 rfl rfl ⟨Nat.le_of_ble_eq_true rfl, Nat.le_of_ble_eq_true rfl⟩ hK hP hM2 hO hS rfl rfl hl.1 rfl (Nat.le_of_ble_eq_true rfl) dL_law_481 hf2 (fun H locs hP hM2 hO hS => ?_)
        refine lv_istore hx hb dL_law_484 hl (by decide) rfl (fun ls hl => ?_)
        have hl : lv_has ls 7 [(6, _), (5, _), (0, _), (1, _), (2, _), (3, _), (4, _)] := hl
        refine lv_aload_n hx hb dL_law_486 rfl (lv_at hl 4 rfl) ?_
        refine l_mi ad hx hb hml hown hg (c_X7_thrown l dC dI cI cZ y ad.2.1 _) cs_L_62 rfl rfl ⟨Nat.le_of_ble_eq_true rfl, Nat.le_of_ble_eq_true rfl⟩ hK hP hM2 hO hS rfl rfl hl.1 rfl (Nat.le_of_ble_eq_true rfl) dL_law_487 hf2 (fun H locs hP hM2 hO hS => ?_)
        refine lv_iload hx hb dL_law_490 (lv_at hl 1 rfl) ?_
        refine lv_icmp_eq (tgt := 497) hx hb dL_law_492 (by decide) (fun c1 => ?_) (fun c1 => absurd rfl c1)
        refine lv_iload hx hb dL_law_497 (lv_at hl 1 rfl) ?_
        refine lv_if_ne (tgt := 514) hx hb dL_law_499 (by decide) (fun c2 => ?_) (fun c2 => ?_)
        · refine lv_goto (tgt := 665) hx hb dL_law_514 (by decide) ?_
          exact next _ _ _ _ _ hI hP hM2 hO hS ls (lv_sub hl [2, 3, 4, 5, 6] rfl)
        refine lv_aload_n hx hb dL_law_502 rfl (lv_at hl 5 rfl) ?_
        refine lv_iconst (v := 0) hx hb dL_law_503 (by decide) ?_
        refine va_lald (D := (dC, dI)) hx hb hK hO 0 2 rfl rfl (i := 0) (by unfold vp_in; decide) dL_law_504 ?_
        refine lv_iload hx hb dL_law_505 (lv_at hl 0 rfl) ?_
        refine lv_i2l hx hb dL_law_507 rfl ?_
        refine W.lcmp hx hb dL_law_508 ?_
        refine lv_if_eq (tgt := 514) hx hb dL_law_509 (by decide) (fun c3 => ?_) (fun c3 => absurd (l_cmp (show fo 0 = rr.toInt64 from (hfo (kc_0 c2)).trans (by rw [hval (kc_0 c2)]))) c3)
        refine lv_goto (tgt := 665) hx hb dL_law_514 (by decide) ?_
        exact next _ _ _ _ _ hI hP hM2 hO hS ls (lv_sub hl [2, 3, 4, 5, 6] rfl)
      refine sw_case (v := 8) (fun w8 => ?_) (fun w8 => ?_)
      · refine sw_in (off := 478) (tgt := 517) 8 hx hb dL_law_39 w8 (by decide) (by decide) ?_
        obtain ⟨hok6, hok7, ⟨rr, heq, hval⟩, hI, hE⟩ := sim_chip hI th aa
        refine lv_aload_n hx hb dL_law_517 rfl (lv_at hl 1 rfl) ?_
        refine lv_aload_n hx hb dL_law_518 rfl (lv_at hl 0 rfl) ?_
        refine lv_iload hx hb dL_law_519 (lv_at hl 4 rfl) ?_
        refine lv_iconst (v := 1) hx hb dL_law_521 (by decide) ?_
        refine lv_iadd hx hb dL_law_522 ?_
        refine va_sld hx hb hX hbl hbA hS hin1 dL_law_523 ?_
        rw [← haa]
        refine lv_aload_n hx hb dL_law_524 rfl (lv_at hl 3 rfl) ?_
        refine l_h1 (F := f_X6_chip u aa) (EX := fun U => va_Nc x_UOE x_IAE U ∧ va_Nc x_ISE x_IAE U ∧ va_Nc x_ISE x_UOE U) (fun U hW => ⟨hnc.1.moved hW.alike, hnc.2.1.moved hW.alike, hnc.2.2.moved hW.alike⟩) (fun U g mk a q => q) ad hx hb hml hown hg (c_L_chip l hst dC dI cI cZ cL x ad.1 sa u o ad.2.2.2.2.2.2.1 fo aa hok6 hE) (g_cwW (n := 3) hg km_L_91 kt_L_chip kn_L kc_L_chip (by decide) rfl rfl ⟨Nat.le_of_ble_eq_true rfl, Nat.le_of_ble_eq_true rfl⟩) hK hxe hP hM2 hO hS rfl hl.1 rfl (Nat.le_of_ble_eq_true rfl) dL_law_525 hf1 (fun fo H locs hfo hP hM2 hO hS => ?_)
        refine lv_istore hx hb dL_law_528 hl (by decide) rfl (fun ls hl => ?_)
        have hl : lv_has ls 7 [(5, _), (0, _), (1, _), (2, _), (3, _), (4, _)] := hl
        refine lv_aload_n hx hb dL_law_530 rfl (lv_at hl 3 rfl) ?_
        refine lv_aload_n hx hb dL_law_531 rfl (lv_at hl 1 rfl) ?_
        refine lv_iload hx hb dL_law_532 (lv_at hl 5 rfl) ?_
        refine lv_iconst (v := 1) hx hb dL_law_534 (by decide) ?_
        refine lv_iadd hx hb dL_law_535 ?_
        refine va_sld hx hb hX hbl hbA hS hin1 dL_law_536 ?_
        rw [← haa]
        have hMc := c_X7_chip l dC dI cI cZ y ad.2.1 (aM th u) aa hok7
        rw [heq] at hMc
        try dsimp only at hMc
        refine l_mi ad hx hb hml hown hg hMc cs_L_93 rfl rfl ⟨Nat.le_of_ble_eq_true rfl, Nat.le_of_ble_eq_true rfl⟩ hK hP hM2 hO hS rfl rfl hl.1 rfl (Nat.le_of_ble_eq_true rfl) dL_law_537 hf2 (fun H locs hP hM2 hO hS => ?_)
        refine lv_istore hx hb dL_law_540 hl (by decide) rfl (fun ls hl => ?_)
        have hl : lv_has ls 7 [(6, _), (5, _), (0, _), (1, _), (2, _), (3, _), (4, _)] := hl
        refine lv_aload_n hx hb dL_law_542 rfl (lv_at hl 4 rfl) ?_
        refine l_mi ad hx hb hml hown hg (c_X7_thrown l dC dI cI cZ y ad.2.1 _) cs_L_62 rfl rfl ⟨Nat.le_of_ble_eq_true rfl, Nat.le_of_ble_eq_true rfl⟩ hK hP hM2 hO hS rfl rfl hl.1 rfl (Nat.le_of_ble_eq_true rfl) dL_law_543 hf2 (fun H locs hP hM2 hO hS => ?_)
        refine lv_iload hx hb dL_law_546 (lv_at hl 1 rfl) ?_
        refine lv_icmp_eq (tgt := 553) hx hb dL_law_548 (by decide) (fun c1 => ?_) (fun c1 => absurd rfl c1)
        refine lv_iload hx hb dL_law_553 (lv_at hl 1 rfl) ?_
        refine lv_if_ne (tgt := 570) hx hb dL_law_555 (by decide) (fun c2 => ?_) (fun c2 => ?_)
        · refine lv_goto (tgt := 665) hx hb dL_law_570 (by decide) ?_
          exact next _ _ _ _ _ hI hP hM2 hO hS ls (lv_sub hl [2, 3, 4, 5, 6] rfl)
        refine lv_aload_n hx hb dL_law_558 rfl (lv_at hl 5 rfl) ?_
        refine lv_iconst (v := 0) hx hb dL_law_559 (by decide) ?_
        refine va_lald (D := (dC, dI)) hx hb hK hO 0 2 rfl rfl (i := 0) (by unfold vp_in; decide) dL_law_560 ?_
        refine lv_iload hx hb dL_law_561 (lv_at hl 0 rfl) ?_
        refine lv_i2l hx hb dL_law_563 rfl ?_
        refine W.lcmp hx hb dL_law_564 ?_
        refine lv_if_eq (tgt := 570) hx hb dL_law_565 (by decide) (fun c3 => ?_) (fun c3 => absurd (l_cmp (show fo 0 = rr.toInt64 from (hfo (kc_0 c2)).trans (by rw [hval (kc_0 c2)]))) c3)
        refine lv_goto (tgt := 665) hx hb dL_law_570 (by decide) ?_
        exact next _ _ _ _ _ hI hP hM2 hO hS ls (lv_sub hl [2, 3, 4, 5, 6] rfl)
      refine sw_case (v := 9) (fun w9 => ?_) (fun w9 => ?_)
      · refine sw_in (off := 534) (tgt := 573) 9 hx hb dL_law_39 w9 (by decide) (by decide) ?_
        obtain ⟨hok7, ⟨rr, heq, hval⟩, hI, hE⟩ := sim_v hI th aa
        refine lv_aload_n hx hb dL_law_573 rfl (lv_at hl 1 rfl) ?_
        refine lv_aload_n hx hb dL_law_574 rfl (lv_at hl 0 rfl) ?_
        refine lv_iload hx hb dL_law_575 (lv_at hl 4 rfl) ?_
        refine lv_iconst (v := 1) hx hb dL_law_577 (by decide) ?_
        refine lv_iadd hx hb dL_law_578 ?_
        refine va_sld hx hb hX hbl hbA hS hin1 dL_law_579 ?_
        rw [← haa]
        refine lv_aload_n hx hb dL_law_580 rfl (lv_at hl 3 rfl) ?_
        refine l_h1 (F := f_X6_v u aa) (EX := fun _ => True) (fun _ _ => trivial) (fun _ _ _ _ _ => trivial) ad hx hb hml hown hg (c_L_v l hst dC dI cI cZ cL x ad.1 sa u o ad.2.2.2.2.2.2.1 fo aa hE) (g_cwW (n := 3) hg km_L_94 kt_L_v kn_L kc_L_v (by decide) rfl rfl ⟨Nat.le_of_ble_eq_true rfl, Nat.le_of_ble_eq_true rfl⟩) hK hxe hP hM2 hO hS rfl hl.1 rfl (Nat.le_of_ble_eq_true rfl) dL_law_581 hf1 (fun fo H locs hfo hP hM2 hO hS => ?_)
        refine lv_istore hx hb dL_law_584 hl (by decide) rfl (fun ls hl => ?_)
        have hl : lv_has ls 7 [(5, _), (0, _), (1, _), (2, _), (3, _), (4, _)] := hl
        refine lv_aload_n hx hb dL_law_586 rfl (lv_at hl 3 rfl) ?_
        refine lv_aload_n hx hb dL_law_587 rfl (lv_at hl 1 rfl) ?_
        refine lv_iload hx hb dL_law_588 (lv_at hl 5 rfl) ?_
        refine lv_iconst (v := 1) hx hb dL_law_590 (by decide) ?_
        refine lv_iadd hx hb dL_law_591 ?_
        refine va_sld hx hb hX hbl hbA hS hin1 dL_law_592 ?_
        rw [← haa]
        have hMc := c_X7_v l dC dI cI cZ y ad.2.1 (aM th u) aa hok7
        rw [heq] at hMc
        try dsimp only at hMc
        refine l_mi ad hx hb hml hown hg hMc cs_L_96 rfl rfl ⟨Nat.le_of_ble_eq_true rfl, Nat.le_of_ble_eq_true rfl⟩ hK hP hM2 hO hS rfl rfl hl.1 rfl (Nat.le_of_ble_eq_true rfl) dL_law_593 hf2 (fun H locs hP hM2 hO hS => ?_)
        refine lv_istore hx hb dL_law_596 hl (by decide) rfl (fun ls hl => ?_)
        have hl : lv_has ls 7 [(6, _), (5, _), (0, _), (1, _), (2, _), (3, _), (4, _)] := hl
        refine lv_aload_n hx hb dL_law_598 rfl (lv_at hl 4 rfl) ?_
        refine l_mi ad hx hb hml hown hg (c_X7_thrown l dC dI cI cZ y ad.2.1 _) cs_L_62 rfl rfl ⟨Nat.le_of_ble_eq_true rfl, Nat.le_of_ble_eq_true rfl⟩ hK hP hM2 hO hS rfl rfl hl.1 rfl (Nat.le_of_ble_eq_true rfl) dL_law_599 hf2 (fun H locs hP hM2 hO hS => ?_)
        refine lv_iload hx hb dL_law_602 (lv_at hl 1 rfl) ?_
        refine lv_icmp_eq (tgt := 609) hx hb dL_law_604 (by decide) (fun c1 => ?_) (fun c1 => absurd rfl c1)
        refine lv_iload hx hb dL_law_609 (lv_at hl 1 rfl) ?_
        refine lv_if_ne (tgt := 626) hx hb dL_law_611 (by decide) (fun c2 => ?_) (fun c2 => ?_)
        · refine lv_goto (tgt := 665) hx hb dL_law_626 (by decide) ?_
          exact next _ _ _ _ _ hI hP hM2 hO hS ls (lv_sub hl [2, 3, 4, 5, 6] rfl)
        refine lv_aload_n hx hb dL_law_614 rfl (lv_at hl 5 rfl) ?_
        refine lv_iconst (v := 0) hx hb dL_law_615 (by decide) ?_
        refine va_lald (D := (dC, dI)) hx hb hK hO 0 2 rfl rfl (i := 0) (by unfold vp_in; decide) dL_law_616 ?_
        refine lv_iload hx hb dL_law_617 (lv_at hl 0 rfl) ?_
        refine lv_i2l hx hb dL_law_619 rfl ?_
        refine W.lcmp hx hb dL_law_620 ?_
        refine lv_if_eq (tgt := 626) hx hb dL_law_621 (by decide) (fun c3 => ?_) (fun c3 => absurd (l_cmp (show fo 0 = rr.toInt64 from (hfo (kc_0 c2)).trans (by rw [hval (kc_0 c2)]))) c3)
        refine lv_goto (tgt := 665) hx hb dL_law_626 (by decide) ?_
        exact next _ _ _ _ _ hI hP hM2 hO hS ls (lv_sub hl [2, 3, 4, 5, 6] rfl)
      refine sw_case (v := 10) (fun w10 => ?_) (fun w10 => ?_)
      · refine sw_in (off := 590) (tgt := 629) 10 hx hb dL_law_39 w10 (by decide) (by decide) ?_
        obtain ⟨heq, hI, hE⟩ := sim_start hI th aa
        refine lv_aload_n hx hb dL_law_629 rfl (lv_at hl 1 rfl) ?_
        refine lv_aload_n hx hb dL_law_630 rfl (lv_at hl 0 rfl) ?_
        refine lv_iload hx hb dL_law_631 (lv_at hl 4 rfl) ?_
        refine lv_iconst (v := 1) hx hb dL_law_633 (by decide) ?_
        refine lv_iadd hx hb dL_law_634 ?_
        refine va_sld hx hb hX hbl hbA hS hin1 dL_law_635 ?_
        rw [← haa]
        refine l_h0 ad hx hb hml hown hg (c_L_start l hst dC dI cI cZ x ad.1 sa u aa hE) (g_cwW (n := 2) hg km_L_97 kt_L_start kn_L kc_L_start (by decide) rfl rfl ⟨Nat.le_of_ble_eq_true rfl, Nat.le_of_ble_eq_true rfl⟩) hK hxe hP hM2 hO hS rfl hl.1 rfl (Nat.le_of_ble_eq_true rfl) dL_law_636 hf1 (fun H locs hP hM2 hO hS => ?_)
        refine lv_istore hx hb dL_law_639 hl (by decide) rfl (fun ls hl => ?_)
        have hl : lv_has ls 7 [(5, _), (0, _), (1, _), (2, _), (3, _), (4, _)] := hl
        refine lv_aload_n hx hb dL_law_641 rfl (lv_at hl 3 rfl) ?_
        refine lv_aload_n hx hb dL_law_642 rfl (lv_at hl 1 rfl) ?_
        refine lv_iload hx hb dL_law_643 (lv_at hl 5 rfl) ?_
        refine lv_iconst (v := 1) hx hb dL_law_645 (by decide) ?_
        refine lv_iadd hx hb dL_law_646 ?_
        refine va_sld hx hb hX hbl hbA hS hin1 dL_law_647 ?_
        rw [← haa]
        have hMc := c_X7_start l dC dI cI cZ y ad.2.1 (aM th u) aa
        rw [heq] at hMc
        try dsimp only at hMc
        refine l_mv ad hx hb hml hown hg hMc cs_L_100 rfl rfl ⟨Nat.le_of_ble_eq_true rfl, Nat.le_of_ble_eq_true rfl⟩ hK hP hM2 hO hS rfl rfl hl.1 rfl (Nat.le_of_ble_eq_true rfl) dL_law_648 hf2 (fun H locs hP hM2 hO hS => ?_)
        refine lv_aload_n hx hb dL_law_651 rfl (lv_at hl 3 rfl) ?_
        refine l_mi ad hx hb hml hown hg (c_X7_thrown l dC dI cI cZ y ad.2.1 _) cs_L_62 rfl rfl ⟨Nat.le_of_ble_eq_true rfl, Nat.le_of_ble_eq_true rfl⟩ hK hP hM2 hO hS rfl rfl hl.1 rfl (Nat.le_of_ble_eq_true rfl) dL_law_652 hf2 (fun H locs hP hM2 hO hS => ?_)
        refine lv_iload hx hb dL_law_655 (lv_at hl 0 rfl) ?_
        refine lv_icmp_eq (tgt := 662) hx hb dL_law_657 (by decide) (fun c1 => ?_) (fun c1 => absurd rfl c1)
        refine lv_goto (tgt := 665) hx hb dL_law_662 (by decide) ?_
        exact next _ _ _ _ _ hI hP hM2 hO hS ls (lv_sub hl [1, 2, 3, 4, 5] rfl)
      refine sw_def (tgt := 665) [0, 1, 2, 3, 4, 5, 6, 7, 8, 9, 10] hx hb dL_law_39 (List.forall_mem_cons.mpr ⟨w0, List.forall_mem_cons.mpr ⟨w1, List.forall_mem_cons.mpr ⟨w2, List.forall_mem_cons.mpr ⟨w3, List.forall_mem_cons.mpr ⟨w4, List.forall_mem_cons.mpr ⟨w5, List.forall_mem_cons.mpr ⟨w6, List.forall_mem_cons.mpr ⟨w7, List.forall_mem_cons.mpr ⟨w8, List.forall_mem_cons.mpr ⟨w9, List.forall_mem_cons.mpr ⟨w10, fun _ h => absurd h List.not_mem_nil⟩⟩⟩⟩⟩⟩⟩⟩⟩⟩⟩) (by decide) (by decide) ?_
      refine W.widen (k := 30 + k + 1) (n := 7000 + 6 * k + 6) (by omega) (by omega) ?_
      exact next _ _ _ _ _ hI hP hM2 hO hS ls hl

