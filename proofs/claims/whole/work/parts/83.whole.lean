
theorem l_arr {args : Array Value} {s : State} {ty : FieldType} (h : (Cond.arrayClass ty).before args s = true) (ht : ∀ C, ty ≠ .object C) : ∃ cA : ClassId, ArrOfT s cA ty ∧ va_RA s cA ty := by
  obtain ⟨cB, kB, comp, hcB, hkB, hkind⟩ := Cond.arrayClass_spec h
  refine ⟨cB, fun n z => ⟨fun k h => (by cases h), kB, hkB, comp, hkind⟩, ?_⟩
  cases ty with
  | object C => exact absurd rfl (ht C)
  | _ => exact hcB
theorem l_text {args : Array Value} {s : State} {k : Nat} (h : (Cond.exactly (.string RX6 k) "java/lang/String").before args s = true) : ∃ a, (Term.string RX6 k).eval args s none [] s = some (.ref a) := by
  obtain ⟨a, c, cA, kA, q1, q2, q3, q4, q5, q6, -⟩ := Cond.exactly_spec (args := args) (first := s) (o := none) (s := s) (idx := []) (t := .string RX6 k) (cls := "java/lang/String") h
  exact ⟨a, q1⟩
theorem x_bad_in : ∀ w ∈ x_bad, w ∈ lw_tbl := by decide +kernel
theorem x_txt_in : ∀ q ∈ x_txt, Cond.stringRef RX6 q.1 q.2 ∈ lw_tbl := by decide +kernel
theorem x_txt_ex : ∀ q ∈ x_txt, Cond.exactly (.string RX6 q.1) "java/lang/String" ∈ flatC (Jvm.Cond.and given_1 narrow_1) := by decide +kernel
theorem l_xe0 {s : State} {args : Array Value} (hts : ∀ w ∈ lw_tbl, w.before args s = true) (hgv : (Jvm.Cond.and given_1 narrow_1).before args s = true) : ∃ sa, xe (l_A s) sa s s.heap := by
  have hf := flat_of_before _ hgv
  have hA : ∀ a : Nat, a < s.heap.size → ¬ l_A s a := fun a h => Nat.not_le.mpr h
  have hU : vx_Zq Bundle.tN "UNASSIGNED_STACK" Bundle.steD (l_A s) s s.heap := vx_Zqof (hts (.laysStatic Bundle.tN "UNASSIGNED_STACK" Bundle.steD) (by decide +kernel)) (hts (.initialized Bundle.tN) (by decide +kernel)) (hf (.isRef (.static Bundle.tN "UNASSIGNED_STACK" Bundle.steD)) (by decide +kernel)) hA
  have hN : vx_Zq Bundle.tN "SUPPRESSED_SENTINEL" Bundle.listD (l_A s) s s.heap := vx_Zqof (hts (.laysStatic Bundle.tN "SUPPRESSED_SENTINEL" Bundle.listD) (by decide +kernel)) (hts (.initialized Bundle.tN) (by decide +kernel)) (hf (.isRef (.static Bundle.tN "SUPPRESSED_SENTINEL" Bundle.listD)) (by decide +kernel)) hA
  have htx : ∀ q ∈ x_txt, ∃ a, (Term.string RX6 q.1).eval args s none [] s = some (.ref a) := fun q hq => l_text (hf _ (x_txt_ex q hq))
  have hex : ∀ k : Nat, ∃ a : Nat, (∃ q ∈ x_txt, q.1 = k) → (Term.string RX6 k).eval args s none [] s = some (.ref a) := by
    intro k
    by_cases hk : ∃ q ∈ x_txt, q.1 = k
    · obtain ⟨q, hq, rfl⟩ := hk
      obtain ⟨a, ha⟩ := htx q hq
      exact ⟨a, fun _ => ha⟩
    · exact ⟨0, fun h => absurd h hk⟩
  refine ⟨fun k => Classical.choose (hex k), hU, hN, fun w hw => va_Nw.of (x_bad_on w hw) (hts w (x_bad_in w hw)), fun q hq => vk_R.of (hts _ (x_txt_in q hq)) (Classical.choose_spec (hex q.1) ⟨q, hq, rfl⟩)⟩
theorem l_nc {s : State} {args : Array Value} (hgv : (Jvm.Cond.and given_1 narrow_1).before args s = true) : va_Nc x_UOE x_IAE s ∧ va_Nc x_ISE x_IAE s ∧ va_Nc x_ISE x_UOE s := by
  have hf := flat_of_before _ hgv
  exact ⟨va_Nc.of (hf (.not (.castable x_UOE x_IAE)) (by decide +kernel)), va_Nc.of (hf (.not (.castable x_ISE x_IAE)) (by decide +kernel)), va_Nc.of (hf (.not (.castable x_ISE x_UOE)) (by decide +kernel))⟩


theorem l_pre {D : va_G} {cl : List vw_C} {w1 w2 : va_W} {H : Heap} (h : va_P D cl (w1 ++ w2) H) : va_P D cl w1 H := fun k q hk => h k q (by
  have hl : k < w1.length := (List.getElem?_eq_some_iff.mp hk).1
  rw [List.getElem?_append_left hl]; exact hk)
theorem l_suf {D : va_G} {cl : List vw_C} {w1 w2 : va_W} {H : Heap} (h : va_P D cl (w1 ++ w2) H) : va_P D cl w2 H := fun k q hk => h (w1.length + k) q (by
  rw [List.getElem?_append_right (by omega), Nat.add_sub_cancel_left]; exact hk)
theorem l_adOf {s : State} {x y : Nat → Nat} {o : Nat} {cI cZ cL : ClassId} {u : BS} {v : MS} {f : Nat → Int64} (hD : va_D (l_A s) (wB x cI cZ u ++ wM y cI cZ v ++ wO o cL f)) : l_ad s x y o := by
  have hj : g_inj 21 (fun i => if i < 13 then x i else if i < 20 then y (i - 13) else o) := g_injOf hD rfl
  have hx : ∀ i, i < 13 → ∃ q, (wB x cI cZ u ++ wM y cI cZ v ++ wO o cL f)[i]? = some q ∧ q.1 = x i := by
    intro i hi
    rcases i with _ | _ | _ | _ | _ | _ | _ | _ | _ | _ | _ | _ | _ | i
    all_goals first | exact ⟨_, rfl, rfl⟩ | omega
  have hy : ∀ i, i < 7 → ∃ q, (wB x cI cZ u ++ wM y cI cZ v ++ wO o cL f)[13 + i]? = some q ∧ q.1 = y i := by
    intro i hi
    rcases i with _ | _ | _ | _ | _ | _ | _ | i
    all_goals first | exact ⟨_, rfl, rfl⟩ | omega
  obtain ⟨G, hG⟩ : ∃ G : Nat → Nat, G = (fun i => if i < 13 then x i else if i < 20 then y (i - 13) else o) := ⟨_, rfl⟩
  rw [← hG] at hj
  have gx : ∀ i, i < 13 → G i = x i := fun i h => by rw [hG]; exact if_pos h
  have gy : ∀ i, i < 7 → G (13 + i) = y i := fun i h => by
    rw [hG]
    show (if 13 + i < 13 then x (13 + i) else if 13 + i < 20 then y (13 + i - 13) else o) = y i
    rw [if_neg (by omega), if_pos (by omega), Nat.add_sub_cancel_left]
  have go : G 20 = o := by rw [hG]; rfl
  refine ⟨?_, ?_, ?_, ?_, ?_, ?_, ?_, ?_⟩
  · intro i j hi' hj' h
    exact hj i j (by omega) (by omega) (by rw [gx i hi', gx j hj']; exact h)
  · intro i j hi' hj' h
    have := hj (13 + i) (13 + j) (by omega) (by omega) (by rw [gy i hi', gy j hj']; exact h)
    omega
  · rintro q ⟨i, hi, rfl⟩
    obtain ⟨z, h1, h2⟩ := hx i hi
    have := hD.2 i z h1
    rw [h2] at this; exact this
  · rintro q ⟨i, hi, rfl⟩
    obtain ⟨z, h1, h2⟩ := hy i hi
    have := hD.2 (13 + i) z h1
    rw [h2] at this; exact this
  · exact hD.2 20 (o, .inl (cL, 1, .inr (.inl f))) rfl
  · rintro q ⟨i, hi, rfl⟩ ⟨j, hj', h⟩
    have := hj i (13 + j) (by omega) (by omega) (by rw [gx i hi, gy j hj']; exact h)
    omega
  · rintro ⟨i, hi, h⟩
    have := hj i 20 (by omega) (by omega) (by rw [gx i hi, go]; exact h.symm)
    omega
  · rintro ⟨i, hi, h⟩
    have := hj (13 + i) 20 (by omega) (by omega) (by rw [gy i hi, go]; exact h.symm)
    omega

theorem l_m0 {cI cZ : ClassId} {yq0 yq1 yq2 yq3 yq4 yq5 yq6 : Nat} : wM (fun i => if i = 0 then yq0 else if i = 1 then yq1 else if i = 2 then yq2 else if i = 3 then yq3 else if i = 4 then yq4 else if i = 5 then yq5 else yq6) cI cZ (aM 0 bu0) = [(yq0, .inr (7, [.int 0, .ref yq1, .ref yq2, .ref yq3, .ref yq4, .ref yq5, .int 0, .int 0, .int 0, .int 0, .int 0, .int 0, .int 0, .ref yq6])), (yq1, .inl (cI, 2048, .inl (fun _ => 0))), (yq2, .inl (cI, 24, .inl (upd (fun _ => 0) (21 : Int32).toNatClampNeg 1))), (yq3, .inl (cI, 22, .inl (upd (fun _ => 0) (17 : Int32).toNatClampNeg 512))), (yq4, .inl (cI, 12, .inl (fun _ => 0))), (yq5, .inl (cZ, 16, .inl (fun _ => 0))), (yq6, .inl (cI, 1024, .inl (fun _ => 0)))] := by
  have e1 : aS bu0 = upd (fun _ => 0) (21 : Int32).toNatClampNeg 1 := by
    funext i
    by_cases h : i = 21
    · subst h; rfl
    · have h2 : upd (fun _ => (0 : Int32)) (21 : Int32).toNatClampNeg 1 i = 0 := pk_un h
      rw [h2]
      unfold aS
      simp only [h, if_false]
      repeat' split
      all_goals rfl
  have e2 : aV bu0 = upd (fun _ => 0) (17 : Int32).toNatClampNeg 512 := by
    funext i
    by_cases h : i = 17
    · subst h; rfl
    · have h2 : upd (fun _ => (0 : Int32)) (17 : Int32).toNatClampNeg 512 i = 0 := pk_un h
      rw [h2]
      unfold aV
      simp only [h, if_false]
      repeat' split
      all_goals rfl
  have e3 : aM 0 bu0 = (0, ((fun _ => 0), upd (fun _ => 0) (21 : Int32).toNatClampNeg 1, upd (fun _ => 0) (17 : Int32).toNatClampNeg 512, (fun _ => 0), (fun _ => 0), (fun _ => 0)), (0, 0, 0, 0, 0, 0, 0)) := by
    unfold aM
    rw [e1, e2]
    rfl
  rw [e3]
  rfl

set_option maxHeartbeats 8000000 in
set_option maxRecDepth 100000 in
theorem whole_start {p : Program} {e : Env} {s : State} {m : MethodId} {below : List Frame} {meth : Method} {c : Code} (l : Launch) (hst : l.stackTraces = false) {b L : Nat} {xs : Nat → Int32} (hL : L ≤ 192) (C0 : lw_At p s m meth c b L xs) : W p l e room_1 s m #[Value.ref b] below meth c s.heap [] 0 0 (lw_Z below #[Value.ref b] s) (entryFrame m ([Value.ref b] : List Value).toArray 7) := by
  obtain ⟨hx, hb, hr, hml, hown, hts, hX, hbl, hlocks, hgv⟩ := id C0
  have hg : ∀ w ∈ gtbl, w.before #[Value.ref b] s = true := fun w h => hts w (gt_in w h)
  obtain ⟨sa, hxe⟩ := l_xe0 hts hgv
  have hnc := l_nc hgv
  have hA : ∀ q : Nat, s.heap.size ≤ q → l_A s q := fun _ h => h
  obtain ⟨c0, iS0, hKn0⟩ := u_known (C := RX0) (T := TX0) (N := 2) (n := 2) hg inG0 (hg _ kz_X0)
  obtain ⟨c1, iS1, hKn1⟩ := u_known (C := RX1) (T := TX1) (N := 9) (n := 9) hg inG1 (hg _ kz_X1)
  obtain ⟨c2, iS2, hKn2⟩ := u_known (C := RX2) (T := TX2) (N := 1) (n := 1) hg inG2 (hg _ kz_X2)
  obtain ⟨c3, iS3, hKn3⟩ := u_known (C := RX3) (T := TX3) (N := 8) (n := 8) hg inG3 (hg _ kz_X3)
  obtain ⟨c4, iS4, hKn4⟩ := u_known (C := RX4) (T := TX4) (N := 12) (n := 12) hg inG4 (hg _ kz_X4)
  obtain ⟨c5, iS5, hKn5⟩ := u_known (C := RX5) (T := TX5) (N := 2) (n := 2) hg inG5 (hg _ kz_X5)
  obtain ⟨c6, iS6, hKn6⟩ := u_known (C := RX6) (T := TX6) (N := 6) (n := 6) hg inG6 (hg _ kz_X6)
  obtain ⟨c7, iS7, hKn7⟩ := u_known (C := RX7) (T := TX7) (N := 14) (n := 14) hg inG7 (hg _ kz_X7)
  obtain ⟨dC, dI, hKc⟩ : ∃ (dC : Nat → ClassId) (dI : Nat → Nat → Nat), ∀ (k : Nat) (q : vw_C), vwCl[k]? = some q → u_Kn s q.1 q.2.1 q.2.2 (dC k) (dI k) := by
    refine ⟨fun k => if k = 0 then c0 else if k = 1 then c1 else if k = 2 then c2 else if k = 3 then c3 else if k = 4 then c4 else if k = 5 then c5 else if k = 6 then c6 else c7, fun k => if k = 0 then iS0 else if k = 1 then iS1 else if k = 2 then iS2 else if k = 3 then iS3 else if k = 4 then iS4 else if k = 5 then iS5 else if k = 6 then iS6 else iS7, ?_⟩
    intro k q hq
    match k, hq with
    | 0, hq => cases hq; exact hKn0
    | 1, hq => cases hq; exact hKn1
    | 2, hq => cases hq; exact hKn2
    | 3, hq => cases hq; exact hKn3
    | 4, hq => cases hq; exact hKn4
    | 5, hq => cases hq; exact hKn5
    | 6, hq => cases hq; exact hKn6
    | 7, hq => cases hq; exact hKn7
    | k + 8, hq => simp [vwCl] at hq
  obtain ⟨cI, hI1, hI2⟩ := l_arr (hg _ ka_int) (fun _ h => by cases h)
  obtain ⟨cZ, hZ1, hZ2⟩ := l_arr (hg _ ka_boolean) (fun _ h => by cases h)
  obtain ⟨cL, hJ1, hJ2⟩ := l_arr (hg _ ka_long) (fun _ h => by cases h)
  have hK : va_K (dC, dI) vwCl (tys3 cI cZ cL) s := ⟨hKc, fun k q h => by
    match k, h with
    | 0, h => cases h; exact ⟨hI1, hI2⟩
    | 1, h => cases h; exact ⟨hZ1, hZ2⟩
    | 2, h => cases h; exact ⟨hJ1, hJ2⟩
    | k + 3, h => simp [tys3] at h⟩
  have hK2 : va_K (dC, dI) vwCl (tysW cI cZ) s := hK.sub [0, 1] rfl
  have hne : va_Nw (.methodLinkNest RX6 9 yX2_init RX6) s ∧ va_Nw (.methodLinkNest RX6 18 yX0_init RX6) s ∧ va_Nw (.methodLinkNest RX6 25 yX5_init RX6) s := ⟨va_Nw.of rfl (hts (.methodLinkNest RX6 9 yX2_init RX6) (by decide +kernel)), va_Nw.of rfl (hts (.methodLinkNest RX6 18 yX0_init RX6) (by decide +kernel)), va_Nw.of rfl (hts (.methodLinkNest RX6 25 yX5_init RX6) (by decide +kernel))⟩
  have hS : va_S (l_A s) s.heap s.heap [] := va_S.rf
  have hP : va_P (dC, dI) vwCl [] s.heap := fun k q h => by simp at h
  have hD : va_D (l_A s) [] := ⟨fun i j p q h => by simp at h, fun k q h => by simp at h⟩
  have hl := lv_entry ([.ref b]) (n := 7) (Nat.le_of_ble_eq_true rfl)
  rw [lg_entry_eq]
  generalize (lg_sl ([.ref b]) ++ List.replicate (7 - (lg_sl ([.ref b])).length) Slot.unset).toArray = ls at hl ⊢
  have hl : lv_has ls 7 [(0, .ref b)] := hl
  refine va_new (D := (dC, dI)) (ci := 6) (fs := [.null, .null, .null, .null, .null, .null]) (C := RX6) (T := TX6) (N := 6) hx hb hg inG6 tyX6 tyX6_ok hown (hg _ kk_L_8) (hg _ kz_X6) (hg _ kn_X6) hK hP hD hS hA rfl (by decide) (Nat.le_of_ble_eq_true rfl) (Nat.le_of_ble_eq_true rfl) dL_law_0 (fun xq0 H hP hD hS => ?_)
  have hP : va_P (dC, dI) vwCl [(xq0, .inr (6, [.null, .null, .null, .null, .null, .null]))] H := hP
  have hD : va_D (l_A s) [(xq0, .inr (6, [.null, .null, .null, .null, .null, .null]))] := hD
  refine W.widen (k := 1) (n := 6) (by omega) (by omega) ?_
  refine lv_dup hx hb dL_law_3 rfl ?_
  have hPc := hP.sub (ws' := [(xq0, .inr (6, [.null, .null, .null, .null, .null, .null]))]) [0] rfl
  have hDc := hD.sub (ws' := [(xq0, .inr (6, [.null, .null, .null, .null, .null, .null]))]) [0] (by decide) rfl
  have hFc := va_free (wc := [(xq0, .inr (6, [.null, .null, .null, .null, .null, .null]))]) hD hS hA [0] rfl
  refine va_callv (va_runI (As := []) (rest := [.ref xq0]) ⟨hx, hb, hml, hown, hg⟩ (c_X6_init l dC dI cI cZ xq0 H.size) (cwI 0 hg (g_gi .tt yX6_init kc_X6_init) rfl rfl rfl (hg _ kn_X6) (hg _ km_L_52) (hg _ ki_X6_init) rfl (by decide +kernel) ⟨Nat.le_of_ble_eq_true rfl, Nat.le_of_ble_eq_true rfl⟩) ⟨fun a U g mk q => by obtain ⟨q0, q1, qP, qK, qD, qE⟩ := q; exact ⟨q0, q1, qP, va_K.moved (u := U) (U := U.calling g mk a) (Vm.Alike.refl U.vm) qK, qD, ⟨va_Nw.same rfl (u := U) (U := U.calling g mk a) rfl qE.1, va_Nw.same rfl (u := U) (U := U.calling g mk a) rfl qE.2.1, va_Nw.same rfl (u := U) (U := U.calling g mk a) rfl qE.2.2⟩⟩, fun U hU hW => ⟨rfl, by rw [hU], by rw [hU]; exact hPc, va_K.moved hW.alike hK2, hDc.weaken (fun _ _ _ _ => trivial), ⟨va_Nw.warmM hW hne.1, va_Nw.warmM hW hne.2.1, va_Nw.warmM hW hne.2.2⟩⟩⟩ rfl rfl hl.1 rfl (lv_room (Nat.le_of_ble_eq_true rfl)) dL_law_4 ⟨Nat.le_of_ble_eq_true rfl, Nat.le_of_ble_eq_true rfl⟩) hS (fun q _ h => hFc q h) hFc (fun u9 t H1 locs ht hvm hw hB hz1 hk1 hS => ?_)
  obtain ⟨xq1, xq2, xq3, xq4, xq5, xq6, xq7, xq8, xq9, xq10, xq11, xq12, hP1, hD1⟩ := hB
  rw [ht] at hP1
  obtain ⟨hP, hD⟩ := va_join (wr := []) (w1 := [(xq0, .inr (6, [.ref xq1, .ref xq3, .ref xq5, .ref xq6, .ref xq8, .ref xq10])), (xq1, .inr (2, [.ref xq2])), (xq2, .inl (cI, 2048, .inl (fun _ => 0))), (xq3, .inr (0, [.ref xq4, .int 0])), (xq4, .inl (cZ, 16, .inl (fun _ => 0))), (xq5, .inr (5, [.int 0, .int 0])), (xq6, .inr (3, [.ref xq5, .ref xq7, .int 0, .int 0, .int 0, .int 0, .int 0, .int 0])), (xq7, .inl (cI, 1024, .inl (fun _ => 0))), (xq8, .inr (4, [.ref xq1, .ref xq3, .ref xq6, .ref xq9, .int 0, .int 0, .int 0, .int 0, .int 0, .int 1, .int 0, .int 0])), (xq9, .inl (cI, 16, .inl (fun _ => 0))), (xq10, .inr (1, [.ref xq1, .ref xq3, .ref xq5, .ref xq11, .ref xq12, .int 0, .int 0, .int 512, .int 0])), (xq11, .inl (cI, 16, .inl (fun _ => 0))), (xq12, .inl (cI, 12, .inl (fun _ => 0)))]) hP hD [0] [] rfl rfl (by decide) (by decide) hk1 hFc hP1 hD1
  generalize H1 = H at hP hS ⊢
  have hP : va_P (dC, dI) vwCl [(xq0, .inr (6, [.ref xq1, .ref xq3, .ref xq5, .ref xq6, .ref xq8, .ref xq10])), (xq1, .inr (2, [.ref xq2])), (xq2, .inl (cI, 2048, .inl (fun _ => 0))), (xq3, .inr (0, [.ref xq4, .int 0])), (xq4, .inl (cZ, 16, .inl (fun _ => 0))), (xq5, .inr (5, [.int 0, .int 0])), (xq6, .inr (3, [.ref xq5, .ref xq7, .int 0, .int 0, .int 0, .int 0, .int 0, .int 0])), (xq7, .inl (cI, 1024, .inl (fun _ => 0))), (xq8, .inr (4, [.ref xq1, .ref xq3, .ref xq6, .ref xq9, .int 0, .int 0, .int 0, .int 0, .int 0, .int 1, .int 0, .int 0])), (xq9, .inl (cI, 16, .inl (fun _ => 0))), (xq10, .inr (1, [.ref xq1, .ref xq3, .ref xq5, .ref xq11, .ref xq12, .int 0, .int 0, .int 512, .int 0])), (xq11, .inl (cI, 16, .inl (fun _ => 0))), (xq12, .inl (cI, 12, .inl (fun _ => 0)))] H := hP
  have hD : va_D (l_A s) [(xq0, .inr (6, [.ref xq1, .ref xq3, .ref xq5, .ref xq6, .ref xq8, .ref xq10])), (xq1, .inr (2, [.ref xq2])), (xq2, .inl (cI, 2048, .inl (fun _ => 0))), (xq3, .inr (0, [.ref xq4, .int 0])), (xq4, .inl (cZ, 16, .inl (fun _ => 0))), (xq5, .inr (5, [.int 0, .int 0])), (xq6, .inr (3, [.ref xq5, .ref xq7, .int 0, .int 0, .int 0, .int 0, .int 0, .int 0])), (xq7, .inl (cI, 1024, .inl (fun _ => 0))), (xq8, .inr (4, [.ref xq1, .ref xq3, .ref xq6, .ref xq9, .int 0, .int 0, .int 0, .int 0, .int 0, .int 1, .int 0, .int 0])), (xq9, .inl (cI, 16, .inl (fun _ => 0))), (xq10, .inr (1, [.ref xq1, .ref xq3, .ref xq5, .ref xq11, .ref xq12, .int 0, .int 0, .int 512, .int 0])), (xq11, .inl (cI, 16, .inl (fun _ => 0))), (xq12, .inl (cI, 12, .inl (fun _ => 0)))] := hD
  refine W.widen (k := 13) (n := 3172) (by omega) (by omega) ?_
  refine lv_astore_n hx hb dL_law_7 rfl hl (by decide) rfl (fun ls hl => ?_)
  have hl : lv_has ls 7 [(1, _), (0, _)] := hl
  refine va_new (D := (dC, dI)) (ci := 7) (fs := [.int 0, .null, .null, .null, .null, .null, .int 0, .int 0, .int 0, .int 0, .int 0, .int 0, .int 0, .null]) (C := RX7) (T := TX7) (N := 14) hx hb hg inG7 tyX7 tyX7_ok hown (hg _ kk_L_53) (hg _ kz_X7) (hg _ kn_X7) hK hP hD hS hA rfl (by decide) (Nat.le_of_ble_eq_true rfl) (Nat.le_of_ble_eq_true rfl) dL_law_8 (fun yq0 H hP hD hS => ?_)
  have hP : va_P (dC, dI) vwCl [(xq0, .inr (6, [.ref xq1, .ref xq3, .ref xq5, .ref xq6, .ref xq8, .ref xq10])), (xq1, .inr (2, [.ref xq2])), (xq2, .inl (cI, 2048, .inl (fun _ => 0))), (xq3, .inr (0, [.ref xq4, .int 0])), (xq4, .inl (cZ, 16, .inl (fun _ => 0))), (xq5, .inr (5, [.int 0, .int 0])), (xq6, .inr (3, [.ref xq5, .ref xq7, .int 0, .int 0, .int 0, .int 0, .int 0, .int 0])), (xq7, .inl (cI, 1024, .inl (fun _ => 0))), (xq8, .inr (4, [.ref xq1, .ref xq3, .ref xq6, .ref xq9, .int 0, .int 0, .int 0, .int 0, .int 0, .int 1, .int 0, .int 0])), (xq9, .inl (cI, 16, .inl (fun _ => 0))), (xq10, .inr (1, [.ref xq1, .ref xq3, .ref xq5, .ref xq11, .ref xq12, .int 0, .int 0, .int 512, .int 0])), (xq11, .inl (cI, 16, .inl (fun _ => 0))), (xq12, .inl (cI, 12, .inl (fun _ => 0))), (yq0, .inr (7, [.int 0, .null, .null, .null, .null, .null, .int 0, .int 0, .int 0, .int 0, .int 0, .int 0, .int 0, .null]))] H := hP
  have hD : va_D (l_A s) [(xq0, .inr (6, [.ref xq1, .ref xq3, .ref xq5, .ref xq6, .ref xq8, .ref xq10])), (xq1, .inr (2, [.ref xq2])), (xq2, .inl (cI, 2048, .inl (fun _ => 0))), (xq3, .inr (0, [.ref xq4, .int 0])), (xq4, .inl (cZ, 16, .inl (fun _ => 0))), (xq5, .inr (5, [.int 0, .int 0])), (xq6, .inr (3, [.ref xq5, .ref xq7, .int 0, .int 0, .int 0, .int 0, .int 0, .int 0])), (xq7, .inl (cI, 1024, .inl (fun _ => 0))), (xq8, .inr (4, [.ref xq1, .ref xq3, .ref xq6, .ref xq9, .int 0, .int 0, .int 0, .int 0, .int 0, .int 1, .int 0, .int 0])), (xq9, .inl (cI, 16, .inl (fun _ => 0))), (xq10, .inr (1, [.ref xq1, .ref xq3, .ref xq5, .ref xq11, .ref xq12, .int 0, .int 0, .int 512, .int 0])), (xq11, .inl (cI, 16, .inl (fun _ => 0))), (xq12, .inl (cI, 12, .inl (fun _ => 0))), (yq0, .inr (7, [.int 0, .null, .null, .null, .null, .null, .int 0, .int 0, .int 0, .int 0, .int 0, .int 0, .int 0, .null]))] := hD
  refine W.widen (k := 14) (n := 3186) (by omega) (by omega) ?_
  refine lv_dup hx hb dL_law_11 rfl ?_
  have hPc := hP.sub (ws' := [(yq0, .inr (7, [.int 0, .null, .null, .null, .null, .null, .int 0, .int 0, .int 0, .int 0, .int 0, .int 0, .int 0, .null]))]) [13] rfl
  have hDc := hD.sub (ws' := [(yq0, .inr (7, [.int 0, .null, .null, .null, .null, .null, .int 0, .int 0, .int 0, .int 0, .int 0, .int 0, .int 0, .null]))]) [13] (by decide) rfl
  have hFc := va_free (wc := [(yq0, .inr (7, [.int 0, .null, .null, .null, .null, .null, .int 0, .int 0, .int 0, .int 0, .int 0, .int 0, .int 0, .null]))]) hD hS hA [13] rfl
  refine va_callv (va_runI (As := []) (rest := [.ref yq0]) ⟨hx, hb, hml, hown, hg⟩ (c_X7_init l dC dI cI cZ yq0 H.size) (cwI 0 hg (g_gi .tt yX7_init kc_X7_init) rfl rfl rfl (hg _ kn_X7) (hg _ km_L_55) (hg _ ki_X7_init) rfl (by decide +kernel) ⟨Nat.le_of_ble_eq_true rfl, Nat.le_of_ble_eq_true rfl⟩) ⟨fun a U g mk q => by obtain ⟨q0, q1, qP, qK, qD, qE⟩ := q; exact ⟨q0, q1, qP, va_K.moved (u := U) (U := U.calling g mk a) (Vm.Alike.refl U.vm) qK, qD, trivial⟩, fun U hU hW => ⟨rfl, by rw [hU], by rw [hU]; exact hPc, va_K.moved hW.alike hK2, hDc.weaken (fun _ _ _ _ => trivial), trivial⟩⟩ rfl rfl hl.1 rfl (lv_room (Nat.le_of_ble_eq_true rfl)) dL_law_12 ⟨Nat.le_of_ble_eq_true rfl, Nat.le_of_ble_eq_true rfl⟩) hS (fun q _ h => hFc q h) hFc (fun u9 t H1 locs ht hvm hw hB hz1 hk1 hS => ?_)
  obtain ⟨yq1, yq2, yq3, yq4, yq5, yq6, hP1, hD1⟩ := hB
  rw [ht] at hP1
  obtain ⟨hP, hD⟩ := va_join (wr := [(xq0, .inr (6, [.ref xq1, .ref xq3, .ref xq5, .ref xq6, .ref xq8, .ref xq10])), (xq1, .inr (2, [.ref xq2])), (xq2, .inl (cI, 2048, .inl (fun _ => 0))), (xq3, .inr (0, [.ref xq4, .int 0])), (xq4, .inl (cZ, 16, .inl (fun _ => 0))), (xq5, .inr (5, [.int 0, .int 0])), (xq6, .inr (3, [.ref xq5, .ref xq7, .int 0, .int 0, .int 0, .int 0, .int 0, .int 0])), (xq7, .inl (cI, 1024, .inl (fun _ => 0))), (xq8, .inr (4, [.ref xq1, .ref xq3, .ref xq6, .ref xq9, .int 0, .int 0, .int 0, .int 0, .int 0, .int 1, .int 0, .int 0])), (xq9, .inl (cI, 16, .inl (fun _ => 0))), (xq10, .inr (1, [.ref xq1, .ref xq3, .ref xq5, .ref xq11, .ref xq12, .int 0, .int 0, .int 512, .int 0])), (xq11, .inl (cI, 16, .inl (fun _ => 0))), (xq12, .inl (cI, 12, .inl (fun _ => 0)))]) (w1 := [(yq0, .inr (7, [.int 0, .ref yq1, .ref yq2, .ref yq3, .ref yq4, .ref yq5, .int 0, .int 0, .int 0, .int 0, .int 0, .int 0, .int 0, .ref yq6])), (yq1, .inl (cI, 2048, .inl (fun _ => 0))), (yq2, .inl (cI, 24, .inl (upd (fun _ => 0) (21 : Int32).toNatClampNeg 1))), (yq3, .inl (cI, 22, .inl (upd (fun _ => 0) (17 : Int32).toNatClampNeg 512))), (yq4, .inl (cI, 12, .inl (fun _ => 0))), (yq5, .inl (cZ, 16, .inl (fun _ => 0))), (yq6, .inl (cI, 1024, .inl (fun _ => 0)))]) hP hD [13] [0, 1, 2, 3, 4, 5, 6, 7, 8, 9, 10, 11, 12] rfl rfl (by decide) (by decide) hk1 hFc hP1 hD1
  generalize H1 = H at hP hS ⊢
  have hP : va_P (dC, dI) vwCl [(xq0, .inr (6, [.ref xq1, .ref xq3, .ref xq5, .ref xq6, .ref xq8, .ref xq10])), (xq1, .inr (2, [.ref xq2])), (xq2, .inl (cI, 2048, .inl (fun _ => 0))), (xq3, .inr (0, [.ref xq4, .int 0])), (xq4, .inl (cZ, 16, .inl (fun _ => 0))), (xq5, .inr (5, [.int 0, .int 0])), (xq6, .inr (3, [.ref xq5, .ref xq7, .int 0, .int 0, .int 0, .int 0, .int 0, .int 0])), (xq7, .inl (cI, 1024, .inl (fun _ => 0))), (xq8, .inr (4, [.ref xq1, .ref xq3, .ref xq6, .ref xq9, .int 0, .int 0, .int 0, .int 0, .int 0, .int 1, .int 0, .int 0])), (xq9, .inl (cI, 16, .inl (fun _ => 0))), (xq10, .inr (1, [.ref xq1, .ref xq3, .ref xq5, .ref xq11, .ref xq12, .int 0, .int 0, .int 512, .int 0])), (xq11, .inl (cI, 16, .inl (fun _ => 0))), (xq12, .inl (cI, 12, .inl (fun _ => 0))), (yq0, .inr (7, [.int 0, .ref yq1, .ref yq2, .ref yq3, .ref yq4, .ref yq5, .int 0, .int 0, .int 0, .int 0, .int 0, .int 0, .int 0, .ref yq6])), (yq1, .inl (cI, 2048, .inl (fun _ => 0))), (yq2, .inl (cI, 24, .inl (upd (fun _ => 0) (21 : Int32).toNatClampNeg 1))), (yq3, .inl (cI, 22, .inl (upd (fun _ => 0) (17 : Int32).toNatClampNeg 512))), (yq4, .inl (cI, 12, .inl (fun _ => 0))), (yq5, .inl (cZ, 16, .inl (fun _ => 0))), (yq6, .inl (cI, 1024, .inl (fun _ => 0)))] H := hP
  have hD : va_D (l_A s) [(xq0, .inr (6, [.ref xq1, .ref xq3, .ref xq5, .ref xq6, .ref xq8, .ref xq10])), (xq1, .inr (2, [.ref xq2])), (xq2, .inl (cI, 2048, .inl (fun _ => 0))), (xq3, .inr (0, [.ref xq4, .int 0])), (xq4, .inl (cZ, 16, .inl (fun _ => 0))), (xq5, .inr (5, [.int 0, .int 0])), (xq6, .inr (3, [.ref xq5, .ref xq7, .int 0, .int 0, .int 0, .int 0, .int 0, .int 0])), (xq7, .inl (cI, 1024, .inl (fun _ => 0))), (xq8, .inr (4, [.ref xq1, .ref xq3, .ref xq6, .ref xq9, .int 0, .int 0, .int 0, .int 0, .int 0, .int 1, .int 0, .int 0])), (xq9, .inl (cI, 16, .inl (fun _ => 0))), (xq10, .inr (1, [.ref xq1, .ref xq3, .ref xq5, .ref xq11, .ref xq12, .int 0, .int 0, .int 512, .int 0])), (xq11, .inl (cI, 16, .inl (fun _ => 0))), (xq12, .inl (cI, 12, .inl (fun _ => 0))), (yq0, .inr (7, [.int 0, .ref yq1, .ref yq2, .ref yq3, .ref yq4, .ref yq5, .int 0, .int 0, .int 0, .int 0, .int 0, .int 0, .int 0, .ref yq6])), (yq1, .inl (cI, 2048, .inl (fun _ => 0))), (yq2, .inl (cI, 24, .inl (upd (fun _ => 0) (21 : Int32).toNatClampNeg 1))), (yq3, .inl (cI, 22, .inl (upd (fun _ => 0) (17 : Int32).toNatClampNeg 512))), (yq4, .inl (cI, 12, .inl (fun _ => 0))), (yq5, .inl (cZ, 16, .inl (fun _ => 0))), (yq6, .inl (cI, 1024, .inl (fun _ => 0)))] := hD
  refine W.widen (k := 20) (n := 6332) (by omega) (by omega) ?_
  refine lv_astore_n hx hb dL_law_15 rfl hl (by decide) rfl (fun ls hl => ?_)
  have hl : lv_has ls 7 [(2, _), (1, _), (0, _)] := hl
  refine lv_iconst (v := 1) hx hb dL_law_16 (by decide) ?_
  refine va_newa (atype := .long) (ty := .long) (a0 := (1, .inr (.inl (fun _ => 0)))) hx hb (hg _ ka_long) rfl hK hP hD hS hA (fun cA => rfl) (n := 1) (N' := 1) (by decide) (by decide) (by decide) (Nat.le_of_ble_eq_true rfl) (Nat.le_of_ble_eq_true rfl) dL_law_17 (fun o cA H hK9 hP hD hS => ?_)
  have h91 : s.vm.findClass ("[" ++ (FieldType.long).toString) = some cA := (hK9.2 3 (cA, .long) rfl).2
  cases Option.some.inj (h91.symm.trans hJ2)
  have hP : va_P (dC, dI) vwCl ([(xq0, .inr (6, [.ref xq1, .ref xq3, .ref xq5, .ref xq6, .ref xq8, .ref xq10])), (xq1, .inr (2, [.ref xq2])), (xq2, .inl (cI, 2048, .inl (fun _ => 0))), (xq3, .inr (0, [.ref xq4, .int 0])), (xq4, .inl (cZ, 16, .inl (fun _ => 0))), (xq5, .inr (5, [.int 0, .int 0])), (xq6, .inr (3, [.ref xq5, .ref xq7, .int 0, .int 0, .int 0, .int 0, .int 0, .int 0])), (xq7, .inl (cI, 1024, .inl (fun _ => 0))), (xq8, .inr (4, [.ref xq1, .ref xq3, .ref xq6, .ref xq9, .int 0, .int 0, .int 0, .int 0, .int 0, .int 1, .int 0, .int 0])), (xq9, .inl (cI, 16, .inl (fun _ => 0))), (xq10, .inr (1, [.ref xq1, .ref xq3, .ref xq5, .ref xq11, .ref xq12, .int 0, .int 0, .int 512, .int 0])), (xq11, .inl (cI, 16, .inl (fun _ => 0))), (xq12, .inl (cI, 12, .inl (fun _ => 0)))] ++ [(yq0, .inr (7, [.int 0, .ref yq1, .ref yq2, .ref yq3, .ref yq4, .ref yq5, .int 0, .int 0, .int 0, .int 0, .int 0, .int 0, .int 0, .ref yq6])), (yq1, .inl (cI, 2048, .inl (fun _ => 0))), (yq2, .inl (cI, 24, .inl (upd (fun _ => 0) (21 : Int32).toNatClampNeg 1))), (yq3, .inl (cI, 22, .inl (upd (fun _ => 0) (17 : Int32).toNatClampNeg 512))), (yq4, .inl (cI, 12, .inl (fun _ => 0))), (yq5, .inl (cZ, 16, .inl (fun _ => 0))), (yq6, .inl (cI, 1024, .inl (fun _ => 0)))] ++ wO o cL (fun _ => 0)) H := hP
  have hD : va_D (l_A s) ([(xq0, .inr (6, [.ref xq1, .ref xq3, .ref xq5, .ref xq6, .ref xq8, .ref xq10])), (xq1, .inr (2, [.ref xq2])), (xq2, .inl (cI, 2048, .inl (fun _ => 0))), (xq3, .inr (0, [.ref xq4, .int 0])), (xq4, .inl (cZ, 16, .inl (fun _ => 0))), (xq5, .inr (5, [.int 0, .int 0])), (xq6, .inr (3, [.ref xq5, .ref xq7, .int 0, .int 0, .int 0, .int 0, .int 0, .int 0])), (xq7, .inl (cI, 1024, .inl (fun _ => 0))), (xq8, .inr (4, [.ref xq1, .ref xq3, .ref xq6, .ref xq9, .int 0, .int 0, .int 0, .int 0, .int 0, .int 1, .int 0, .int 0])), (xq9, .inl (cI, 16, .inl (fun _ => 0))), (xq10, .inr (1, [.ref xq1, .ref xq3, .ref xq5, .ref xq11, .ref xq12, .int 0, .int 0, .int 512, .int 0])), (xq11, .inl (cI, 16, .inl (fun _ => 0))), (xq12, .inl (cI, 12, .inl (fun _ => 0)))] ++ [(yq0, .inr (7, [.int 0, .ref yq1, .ref yq2, .ref yq3, .ref yq4, .ref yq5, .int 0, .int 0, .int 0, .int 0, .int 0, .int 0, .int 0, .ref yq6])), (yq1, .inl (cI, 2048, .inl (fun _ => 0))), (yq2, .inl (cI, 24, .inl (upd (fun _ => 0) (21 : Int32).toNatClampNeg 1))), (yq3, .inl (cI, 22, .inl (upd (fun _ => 0) (17 : Int32).toNatClampNeg 512))), (yq4, .inl (cI, 12, .inl (fun _ => 0))), (yq5, .inl (cZ, 16, .inl (fun _ => 0))), (yq6, .inl (cI, 1024, .inl (fun _ => 0)))] ++ wO o cL (fun _ => 0)) := hD
  refine lv_astore_n hx hb dL_law_19 rfl hl (by decide) rfl (fun ls hl => ?_)
  have hl : lv_has ls 7 [(3, _), (2, _), (1, _), (0, _)] := hl
  refine lv_iconst (v := 0) hx hb dL_law_20 (by decide) ?_
  refine lv_istore hx hb dL_law_21 hl (by decide) rfl (fun ls hl => ?_)
  have hl : lv_has ls 7 [(4, _), (3, _), (2, _), (1, _), (0, _)] := hl
  obtain ⟨x, ex⟩ : ∃ x : Nat → Nat, x = (fun i => if i = 0 then xq0 else if i = 1 then xq1 else if i = 2 then xq2 else if i = 3 then xq3 else if i = 4 then xq4 else if i = 5 then xq5 else if i = 6 then xq6 else if i = 7 then xq7 else if i = 8 then xq8 else if i = 9 then xq9 else if i = 10 then xq10 else if i = 11 then xq11 else xq12) := ⟨_, rfl⟩
  obtain ⟨y, ey⟩ : ∃ y : Nat → Nat, y = (fun i => if i = 0 then yq0 else if i = 1 then yq1 else if i = 2 then yq2 else if i = 3 then yq3 else if i = 4 then yq4 else if i = 5 then yq5 else yq6) := ⟨_, rfl⟩
  have eW : wB x cI cZ bu0 = [(xq0, .inr (6, [.ref xq1, .ref xq3, .ref xq5, .ref xq6, .ref xq8, .ref xq10])), (xq1, .inr (2, [.ref xq2])), (xq2, .inl (cI, 2048, .inl (fun _ => 0))), (xq3, .inr (0, [.ref xq4, .int 0])), (xq4, .inl (cZ, 16, .inl (fun _ => 0))), (xq5, .inr (5, [.int 0, .int 0])), (xq6, .inr (3, [.ref xq5, .ref xq7, .int 0, .int 0, .int 0, .int 0, .int 0, .int 0])), (xq7, .inl (cI, 1024, .inl (fun _ => 0))), (xq8, .inr (4, [.ref xq1, .ref xq3, .ref xq6, .ref xq9, .int 0, .int 0, .int 0, .int 0, .int 0, .int 1, .int 0, .int 0])), (xq9, .inl (cI, 16, .inl (fun _ => 0))), (xq10, .inr (1, [.ref xq1, .ref xq3, .ref xq5, .ref xq11, .ref xq12, .int 0, .int 0, .int 512, .int 0])), (xq11, .inl (cI, 16, .inl (fun _ => 0))), (xq12, .inl (cI, 12, .inl (fun _ => 0)))] := by rw [ex]; rfl
  have eM : wM y cI cZ (aM 0 bu0) = [(yq0, .inr (7, [.int 0, .ref yq1, .ref yq2, .ref yq3, .ref yq4, .ref yq5, .int 0, .int 0, .int 0, .int 0, .int 0, .int 0, .int 0, .ref yq6])), (yq1, .inl (cI, 2048, .inl (fun _ => 0))), (yq2, .inl (cI, 24, .inl (upd (fun _ => 0) (21 : Int32).toNatClampNeg 1))), (yq3, .inl (cI, 22, .inl (upd (fun _ => 0) (17 : Int32).toNatClampNeg 512))), (yq4, .inl (cI, 12, .inl (fun _ => 0))), (yq5, .inl (cZ, 16, .inl (fun _ => 0))), (yq6, .inl (cI, 1024, .inl (fun _ => 0)))] := by rw [ey]; exact l_m0
  rw [← eW, ← eM] at hP hD
  have ad : l_ad s x y o := l_adOf hD
  have hPB : va_P (dC, dI) vwCl (wB x cI cZ bu0) H := l_pre (l_pre hP)
  have hPM : va_P (dC, dI) vwCl (wM y cI cZ (aM 0 bu0)) H := l_suf (l_pre hP)
  have hPO : va_P (dC, dI) vwCl (wO o cL (fun _ => 0)) H := l_suf hP
  have hx0 : xq0 = x 0 := by rw [ex]; rfl
  have hy0 : yq0 = y 0 := by rw [ey]; rfl
  rw [hx0, hy0] at hl
  refine W.widen (k := 30 + 0) (n := 7000 + 6 * 0) (by omega) (by omega) ?_
  exact law_loop hst hL C0 ad hK hxe hnc (L + 1) 0 (by omega) (by omega) bu0 0 (fun _ => 0) H _ inv_0 hPB hPM hPO hS ls (lv_sub hl [4, 3, 2, 1, 0] rfl)

-- ===== YOUR PART ENDS =====
set_option maxHeartbeats 4000000 in
theorem lw_walk (l : Launch) (hst : l.stackTraces = false) (b : Addr) (xs : List Int32) : MetFree l x (headSpec (Jvm.Cond.code x code maxLocals ret :: tables_1) room_1) (lw_P b xs) (fun _ _ _ _ _ => True) lw_Q := by
  refine MetFree.of_bodyS (code := code) (maxLocals := maxLocals) (ret := ret) (by decide) ?_ ?_
  · intro args s m h hn
    obtain ⟨meth, c, h1, h2, h3, h4, h5, h6, -, -⟩ := Cond.code_spec hn (atoms_spec (ws := Jvm.Cond.code x code maxLocals ret :: tables_1) h _ List.mem_cons_self)
    exact ⟨meth, c, h1, h2, h3, h4, h5, h6⟩
  · intro p e s m args below meth c s₁ B hml0 hP _
    obtain ⟨rfl, hx, hbd, hgv⟩ := hP
    obtain ⟨scr, harrAt, hlist, hof, hsmall⟩ := hx
    obtain ⟨hcb, hkn, -, -⟩ := State.arrayAt?_spec harrAt
    have hown : s.vm.findClass R_law = some m.cls := findClass_of_methodNamed B.named
    have hts0 : ∀ c ∈ (Jvm.Cond.code x code maxLocals ret :: tables_1), c.before #[Value.ref b] s = true := atoms_spec (ws := Jvm.Cond.code x code maxLocals ret :: tables_1) B.pre
    have hts : ∀ w ∈ lw_tbl, w.before #[Value.ref b] s = true := k2_hts_sels lw_privs (fun w hw => hts0 w (List.mem_cons_of_mem _ hw)) lw_privs_ok
    have hml : c.maxLocals = 7 := B.maxLocals_eq (hts0 _ List.mem_cons_self)
    have X₀ : Stand p l e room_1 s m #[Value.ref b] below meth c s₁ [] 0 0 := Stand.of_body B
    have hh0 : s₁.heap = s.heap := by rw [B.state]; rfl
    have hsz : scr.slots.size = xs.length := by rw [← Array.length_toList, hlist, List.length_map]
    have hval : ∀ j : Nat, j < xs.length → scr.slots[j]? = some (.int (xs.getD j 0)) := fun j hj => by
      rw [← Array.getElem?_toList, hlist]
      simp [hj]
    have hbl : b < s.heap.size := (Array.getElem?_eq_some_iff.mp hcb).1
    have hX : va_X b xs.length (fun j => xs.getD j 0) s s.heap := ⟨scr, hcb, hof, hkn, hsz, hval⟩
    have K : W p l e room_1 s m #[Value.ref b] below meth c s₁.heap [] 0 0 (lw_Z below #[Value.ref b] s) (entryFrame m ([Value.ref b] : List Value).toArray 7) := by
      rw [hh0]
      exact whole_start l hst hbd ⟨B.exec, B.bytes, B.returns, hml, hown, hts, hX, hbl, B.notSynchronized, hgv⟩
    obtain ⟨t, a1, o, b1, b2, b3⟩ := K s₁ rfl X₀
    exact ⟨t, o, a1, b1, b2, b3⟩
theorem lw_pre_spec {args : Array Value} {s : State} (h : (Jvm.Cond.and given_1 narrow_1).before args s = true) (hr : rest_1_c.before args s = true) : ∃ (b : Addr) (xs : List Int32), lw_P b xs args s := by
  have hs := flat_of_before _ h
  have hq := flat_of_before _ hr
  have hc : (Cond.count 1).before args s = true := hs _ (by decide +kernel)
  have harr : (Cond.arrayOf (.arg 0) .int).before args s = true := hs _ (by decide +kernel)
  have hle : (Cond.le (.length (.arg 0)) (.int 192)).before args s = true := hs _ (by decide +kernel)
  have hlen : (Cond.isInt (.length (.arg 0))).before args s = true := hq _ (by decide +kernel)
  have hall : (Cond.all (.arg 0) (.isInt (.elem (.arg 0) (.index 0)))).before args s = true := hq _ (by decide +kernel)
  obtain ⟨b, xs, hb, hx⟩ := State.ints_of_pre rfl harr hlen hall
  have hsm : xs.length < 2 ^ 31 := hx.choose_spec.2.2.2
  have hev : (Term.length (.arg 0)).eval args s none [] s = some (.int xs.length.toInt32) := hx.length_eval hb
  have hv := Cond.le_ints hev (show (Term.int 192).eval args s none [] s = some (.int 192) from rfl)
  have hd : xs.length.toInt32 ≤ 192 := by
    simpa [Cond.before, Cond.holds, hv] using hle
  have hN : xs.length ≤ 192 := (Int32.ofNat_le_ofNat hsm (by decide)).mp (show Int32.ofNat xs.length ≤ Int32.ofNat 192 from hd)
  exact ⟨b, xs, Cond.one_arg hc (show args[0]? = some (.ref b) from hb), hx, hN, h⟩
theorem lw_comes (l : Launch) (hst : l.stackTraces = false) : Comes l x (Jvm.Cond.code x code maxLocals ret :: tables_1) room_1 (fun tb e args s => Calls_1 tb e args s ∧ rest_1 tb e args s ∧ Pre_1 tb e args s)
    (fun _ _ args s o t => lw_Q args s o t) := by
  intro p e ha hc hk s m args below hf hfit hheap happ hpre
  obtain ⟨b, xs, hP⟩ := lw_pre_spec hpre.2.2 hpre.2.1
  obtain ⟨k, o, h1, h2, h3, hQ⟩ := lw_walk l hst b xs p e ha hc hk s m args below hf ((Spec.applies_iff_loose hf).mp happ).1 hP trivial
  exact ⟨k, o, h1, h2, h3, hQ⟩
theorem lw_frame {s t : State} {o : Outcome} {args : Array Value} (h : Framed s o t [] 600128 7301098) :
    Framed s o t (fieldLocs frame_1_writes args s ++ arrayLocs frame_1_arrays args s ++ staticLocs frame_1_statics s) 600128 7301098 := h
theorem l_off {l : Launch} (h : l.flags = flags0) : l.stackTraces = false := by
  unfold Launch.stackTraces
  rw [h]
  decide +kernel
theorem lw_limb (L : Cond) (hL : ∀ (args : Array Value) (s t : State), L.after args s (.returned (some (.int 1))) t = true) :
    ArmFor flags0 classFile x code maxLocals ret World_1 tables_1 room_1 Calls_1 rest_1 Pre_1
      (fun tb e a s o t => postC L tb e a s o t ∧ Framed s o t (fieldLocs frame_1_writes a s ++ arrayLocs frame_1_arrays a s ++ staticLocs frame_1_statics s) 600128 7301098) := by
  intro l hfl _ _ p e ha hc hk s m args below hf hfit hheap happ hpre
  obtain ⟨k, o, h1, h2, h3, rfl, hF⟩ := lw_comes l (l_off hfl) p e ha hc hk s m args below hf hfit hheap happ hpre
  exact ⟨k, _, h1, h2, h3, hL args s _, lw_frame hF⟩
theorem i_vc : Claimed_1_1 ∧ Claimed_1_2 := ⟨lw_limb limb_1_1 (fun args s t => by simp [limb_1_1, Cond.after, Cond.holds, Cond.value]), lw_limb limb_1_2 (fun args s t => Cond.after_iff.mpr (by
  first | (rw [show limb_1_2 = Cond.eq .result (.int 1) from rfl, Cond.eq_ints (x := 1) (y := 1) rfl rfl]; simp; done) | (simp [limb_1_2, Cond.value, Term.eval]; done)))⟩

