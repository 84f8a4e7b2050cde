theorem og {m : MS} {r z : Int32} (hr : rg 16 r) : ok_X7_grow m r z := ⟨in_16 hr (by decide) (by decide), in_16 hr (by decide) (by decide), trivial⟩
theorem om {m : MS} {r : Int32} (hr : rg 16 r) : ok_X7_m m r := ⟨in_16 hr (by decide) (by decide), trivial⟩
theorem ol {m : MS} {r z : Int32} (hr : rg 16 r) : ok_X7_low m r z := ⟨in_16 hr (by decide) (by decide), in_16 hr (by decide) (by decide), trivial⟩
theorem i24 {r : Int32} (hr : rg 16 r) : vp_in r 24 := in_16 hr (by decide) (by decide)
theorem s_isSo {u : BS} {n : Int32} (th : Int32) (h : Inv u) (hn : rg 16 n) : f_X7_isSo (aM th u) n = f_X4_holds u n := by
  have hf := v_flag u
  obtain ⟨ek, hk⟩ := s_asked th h
  have hk2 := ar_2 hk
  refine nib hn (P := fun n => f_X7_isSo (aM th u) n = f_X4_holds u n) rfl rfl rfl rfl ?_ rfl ?_ rfl rfl rfl rfl rfl ?_ rfl ?_ rfl
  · show (if f_X7_isLight (aM th u) = 1 then (1 : Int32) else 0) = (if f_X3_flag u = 0 then 0 else 1)
    rw [s_light]; rcases hf with e | e <;> rw [e] <;> rfl
  · show (if mq_down (aM th u) (mq_latch (aM th u)).toNatClampNeg = 1 then (1 : Int32) else 0) = (if f_X0_askedIsDown u = 0 then 0 else 1)
    rw [ek]; rcases hk2 with e | e <;> rw [e] <;> rfl
  · show (if f_X7_isLight (aM th u) = 0 then (1 : Int32) else 0) = (if f_X3_flag u = 1 then 0 else 1)
    rw [s_light]; rcases hf with e | e <;> rw [e] <;> rfl
  · show (if mq_down (aM th u) (mq_latch (aM th u)).toNatClampNeg = 0 then (1 : Int32) else 0) = (if f_X0_askedIsDown u = 1 then 0 else 1)
    rw [ek]; rcases hk2 with e | e <;> rw [e] <;> rfl
theorem if_aM {c : Prop} [Decidable c] (th : Int32) (a b : BS) : (if c then aM th a else aM th b) = aM th (if c then a else b) := (apply_ite (aM th) _ _ _).symm
theorem i_if {c : Prop} [Decidable c] {a b : BS} (ha : Inv a) (hb : Inv b) : Inv (if c then a else b) := by
  by_cases hc : c
  · rw [if_pos hc]; exact ha
  · rw [if_neg hc]; exact hb
theorem s_branch {u : BS} {n : Int32} (th : Int32) (h : Inv u) (hn : rg 16 n) : f_X7_branch (aM th u) n = aM th (f_X4_branch u n) := by
  show (if f_X7_isSo (aM th u) n = 0 then f_X7_grow (aM th u) (bq_p u) 1 else f_X7_low (aM th u) (bq_p u) (f_X7_m (aM th u) (bq_p u))) = _
  rw [s_isSo th h hn, s_grow th (r_p h), s_m th (r_p h), s_low th h (r_p h) (r_at h _), if_aM]
  rfl
theorem i_branch {u : BS} (h : Inv u) (n : Int32) : Inv (f_X4_branch u n) := i_if (i_grow h _ _) (i_put h _ _)
theorem o_branch {u : BS} {n : Int32} (th : Int32) (h : Inv u) : ok_X7_branch (aM th u) n := by
  refine ⟨om (r_p h), o_isSo th h, ?_⟩
  split
  · exact ⟨og (r_p h), trivial⟩
  · exact ⟨ol (r_p h), trivial⟩
theorem i_branchFar {u : BS} (h : Inv u) (n : Int32) : Inv (f_X4_branchFar u n) := i_if (i_grow h _ _) (i_put h _ _)
theorem s_wS {u : BS} (th : Int32) (h : Inv u) (n : Int32) : (if f_X7_skips (aM th u) n = 0 then aM th u else f_X7_grow (aM th u) (bq_p u) 2) = aM th (if f_X4_skips u n = 0 then u else f_X4_grow u (bq_p u) 2) := by
  rw [s_grow th (r_p h), if_aM]; rfl
theorem s_wB {u : BS} {n : Int32} (th : Int32) (h : Inv u) (hn : rg 16 n) : (if f_X7_isSo (aM th u) n = 0 then f_X7_grow (aM th u) (bq_p u) 2 else ms_s (aM th u) (upd (mq_s (aM th u)) (bq_p u).toNatClampNeg (((f_X7_m (aM th u) (bq_p u)) <<< ((8 : Int32) &&& 31)) ||| (f_X7_byteAt (aM th u) ((mq_s (aM th u) (bq_p u).toNatClampNeg) + 1))))) = aM th (f_X4_branchFar u n) := by
  have e := ar_pair (r_at h (bq_p u)) (r_read h (f_X4_register u (bq_p u) + 1))
  rw [s_isSo th h hn, s_grow th (r_p h), s_reg th (r_p h), s_m th (r_p h), s_byteAt, e.1, s_put th (r_p h) e.2.2, if_aM]
  rfl
theorem s_wide {u : BS} {n : Int32} (th : Int32) (h : Inv u) (hn : rg 16 n) : f_X7_wide (aM th u) n = aM th (f_X4_goFar u n) := by
  have hB : ∀ n, rg 16 n → _ := fun n hn => s_wB (u := u) (n := n) th h hn
  have hS := s_wS th h
  exact nib hn (P := fun n => f_X7_wide (aM th u) n = aM th (f_X4_goFar u n)) (hB 0 (rg_k 0 (by decide))) (hB 1 (rg_k 1 (by decide))) (hB 2 (rg_k 2 (by decide))) (hB 3 (rg_k 3 (by decide))) (hS 4) (hS 5) (hS 6) (hS 7) (hS 8) (hB 9 (rg_k 9 (by decide))) (hB 10 (rg_k 10 (by decide))) (hB 11 (rg_k 11 (by decide))) (hS 12) (hS 13) (hS 14) (hS 15)
theorem i_goFar {u : BS} (h : Inv u) (n : Int32) : Inv (f_X4_goFar u n) := i_if (i_branchFar h _) (i_if (i_if h (i_grow h _ _)) (i_if (i_if h (i_grow h _ _)) (i_branchFar h _)))
theorem o_wide {u : BS} {n : Int32} (th : Int32) (h : Inv u) : ok_X7_wide (aM th u) n := by
  have a1 : ok_X7_grow (aM th u) (mq_s (aM th u) 18) 2 := og (r_p h)
  have a2 : ok_X7_m (aM th u) (mq_s (aM th u) 18) := om (r_p h)
  have a3 : vp_in (mq_s (aM th u) 18) 24 := i24 (r_p h)
  have a4 : ok_X7_isSo (aM th u) n := o_isSo th h
  unfold ok_X7_wide
  simp only [a1, a2, a3, a4, ite_self, and_self]
theorem on_id {w : BS} {z : Int32} (e : bq_on w = z) : bs_on w z = w := by subst e; rfl
theorem s_port {u : BS} {n : Int32} (th : Int32) (h : Inv u) (hn : rg 16 n) : n ≠ 0 → f_X7_port (aM th u) n = aM th (f_X4_transfer u n) := by
  have hx := r_x h
  have e7 : ms_s (f_X7_store (aM th u) (mq_s (aM th u) (bq_x u).toNatClampNeg) 0) (upd (mq_s (f_X7_store (aM th u) (mq_s (aM th u) (bq_x u).toNatClampNeg) 0)) 16 0) = aM th (bs_d (f_X4_putAt u (bq_x u) 0) 0) := by
    rw [s_reg th hx, s_store]; exact M_d _ _ _
  have h7 : Inv (bs_d (f_X4_putAt u (bq_x u) 0) 0) := i_d (i_putAt h _ _) (rg_0 (by decide))
  have key : ∀ (w : BS) (m : MS), Inv w → m = aM th w → (if mq_on m = 0 then ms_on m 0 else ms_on m 1) = aM th w := by
    intro w m hw e
    rw [e]
    rcases ar_2 (r_on hw) with e1 | e1
    · rw [if_pos (show mq_on (aM th w) = 0 from e1), M_on, on_id e1]
    · rw [if_neg (show ¬ mq_on (aM th w) = 0 by rw [m_on, e1]; decide), M_on, on_id e1]
  have key9 : ∀ (w : BS) (m : MS), m = aM th w → (if mq_on m = 0 then ms_on m 1 else ms_on m 1) = aM th (bs_on w 1) := by
    intro w m e
    rw [e, ite_self]; rfl
  have hg : ∀ w : BS, f_X7_grow (aM th w) (bq_x u) 1 = aM th (f_X4_grow w (bq_x u) 1) := fun w => s_grow th hx 1
  have n1 : f_X7_port (aM th u) 1 = aM th (f_X4_transfer u 1) := by
    show f_X7_grow (aM th (bs_on u 0)) (bq_x u) 1 = aM th (bs_on (f_X4_grow u (bq_x u) 1) 0)
    rw [hg]; rfl
  have n2 : f_X7_port (aM th u) 2 = aM th (f_X4_transfer u 2) := by
    show f_X7_grow (aM th (bs_asked u (f_X7_m (aM th u) (bq_x u) &&& 15))) (bq_x u) 1 = aM th (bs_asked (f_X4_grow u (bq_x u) 1) (f_X4_at u (bq_x u) &&& 15))
    rw [hg, s_m th hx]; rfl
  refine nib hn (P := fun n => n ≠ 0 → f_X7_port (aM th u) n = aM th (f_X4_transfer u n)) (fun h => absurd rfl h) (fun _ => n1) (fun _ => n2) (fun _ => hg u) (fun _ => hg u) (fun _ => hg u) (fun _ => hg u) (fun _ => hg u) (fun _ => rfl) (fun _ => key9 _ _ e7) (fun _ => key _ _ h7 e7) (fun _ => key _ _ h7 e7) (fun _ => key _ _ h7 e7) (fun _ => key _ _ h7 e7) (fun _ => key _ _ h7 e7) (fun _ => key _ _ h7 e7)
theorem i_output {u : BS} (h : Inv u) (n z : Int32) : Inv (f_X4_output u n z) := i_if (i_on h (rg_0 (by decide))) (i_if (i_asked h (rg_15 _)) h)
theorem i_transfer {u : BS} (h : Inv u) (n : Int32) : Inv (f_X4_transfer u n) := i_if (i_grow h _ _) (i_if (i_if h (i_if (i_on (i_d (i_putAt h _ _) (rg_0 (by decide))) ⟨1, by decide, by decide⟩) (i_d (i_putAt h _ _) (rg_0 (by decide))))) (i_output (i_take h _) _ _))
theorem o_port {u : BS} {n : Int32} (th : Int32) (h : Inv u) : ok_X7_port (aM th u) n := by
  have a1 : ∀ m : MS, ok_X7_grow m (bq_x u) 1 := fun m => og (r_x h)
  have a2 : ok_X7_m (aM th u) (bq_x u) := om (r_x h)
  have a3 : vp_in (bq_x u) 24 := i24 (r_x h)
  unfold ok_X7_port
  simp only [m_x, M_on, M_latch, ite_self, and_self, a1, a2, a3, show ∀ w z, bq_x (bs_on w z) = bq_x w from fun _ _ => rfl, show ∀ w z, bq_x (bs_asked w z) = bq_x w from fun _ _ => rfl]
theorem s_comeBack {u : BS} (th : Int32) (h : Inv u) (z : Int32) : f_X7_comeBack (aM th u) z = aM th (f_X4_resume u z) := by
  unfold f_X7_comeBack
  simp only [m_x, s_m th (r_x h), s_grow th (r_x h), M_x, M_p, M_ie]
  rfl
theorem o_comeBack {u : BS} {z : Int32} (th : Int32) (h : Inv u) : ok_X7_comeBack (aM th u) z := ⟨om (r_x h), og (r_x h), trivial⟩
theorem i_resume {u : BS} {z : Int32} (h : Inv u) (hz : rg 2 z) : Inv (f_X4_resume u z) := i_ie (i_p (i_x (i_take h _) (ar_nib (r_take h _))) (rg_15 _)) hz
theorem s_mark {u : BS} (th : Int32) (h : Inv u) : f_X7_mark (aM th u) = aM th (f_X4_mark u) := by
  unfold f_X7_mark
  simp only [m_x, m_p, m_t, m_regs (show 2 < 16 by decide), M_t, s_store, M_x, s_grow th (r := 2) (rg_k 2 (by decide))]
  rfl
theorem o_mark {u : BS} (th : Int32) : ok_X7_mark (aM th u) := ⟨og (rg_k 2 (by decide)), trivial⟩
theorem i_mark {u : BS} (h : Inv u) : Inv (f_X4_mark u) := i_grow (i_x (i_putAt (i_t h (ar_mark (r_x h) (r_p h))) _ _) (r_p h)) _ _
theorem s_less {u : BS} (th a b c : Int32) : f_X7_less (aM th u) a b c = aM th (f_X4_subtract u a b c) := by
  unfold f_X7_less f_X4_subtract
  simp only [M_d, M_df]
  by_cases hc : (a - b) - c < 0
  · rw [if_neg (show ¬ 0 ≤ (a - b) - c by rw [Int32.lt_iff_toInt_lt] at hc; rw [Int32.le_iff_toInt_le]; omega), if_pos hc]
  · rw [if_pos (show 0 ≤ (a - b) - c by rw [Int32.lt_iff_toInt_lt] at hc; rw [Int32.le_iff_toInt_le]; omega), if_neg hc]
theorem i_sub {u : BS} (h : Inv u) (a b c : Int32) : Inv (f_X4_subtract u a b c) := i_if (i_df (i_d h (rg_255 _)) (rg_0 (by decide))) (i_df (i_d h (rg_255 _)) ⟨1, by decide, by decide⟩)
theorem s_sumOn {u : BS} (th a : Int32) : f_X7_sumOn (aM th u) a = aM th (f_X4_add u a (bq_df u)) := by
  unfold f_X7_sumOn
  simp only [m_d, m_df, M_d, M_df]
  rfl
theorem s_sum {u : BS} (th a : Int32) : f_X7_sum (aM th u) a (bq_d u) = aM th (f_X4_add u a 0) := by
  unfold f_X7_sum f_X4_add
  simp only [M_d, M_df, Int32.add_zero]
theorem i_add {u : BS} {a c : Int32} (h : Inv u) (ha : rg 256 a) (hc : rg 2 c) : Inv (f_X4_add u a c) := i_df (i_d h (rg_255 _)) (ar_add ha (r_d h) hc)
theorem s_right {u : BS} (th a : Int32) : f_X7_right (aM th u) a = aM th (f_X4_shiftRight u a) := by
  unfold f_X7_right
  simp only [m_d, M_d, M_df]
  rfl
theorem i_right {u : BS} {a : Int32} (h : Inv u) (ha : rg 2 a) : Inv (f_X4_shiftRight u a) := by
  refine i_df (i_d h ?_) (rg_1 _)
  obtain ⟨n, h1, e1⟩ := r_d h
  obtain ⟨b, h2, rfl⟩ := ha
  rw [e1, ar_right ⟨n, h1⟩ ⟨b, h2⟩]
  exact ⟨_, by show n / 2 + b * 128 < 256; omega, rfl⟩
theorem s_left {u : BS} {a : Int32} (th : Int32) (h : Inv u) (ha : rg 2 a) : f_X7_left (aM th u) a = aM th (f_X4_shiftLeft u a) := by
  obtain ⟨n, h1, e1⟩ := r_d h
  obtain ⟨b, h2, rfl⟩ := ha
  obtain ⟨q1, q2, q3⟩ := ar_left ⟨n, h1⟩ ⟨b, h2⟩
  unfold f_X7_left f_X4_shiftLeft
  simp only [m_d, M_d, M_df]
  rw [e1]
  exact congrArg (aM th) (by rw [q1, q2])
theorem i_left {u : BS} {a : Int32} (h : Inv u) (ha : rg 2 a) : Inv (f_X4_shiftLeft u a) := by
  obtain ⟨n, h1, e1⟩ := r_d h
  obtain ⟨b, h2, rfl⟩ := ha
  obtain ⟨q1, q2, q3⟩ := ar_left ⟨n, h1⟩ ⟨b, h2⟩
  refine i_df (i_d h ?_) ?_
  · rw [e1, q1]; exact rg_255 _
  · show rg 2 (bq_d u >>> ((7 : Int32) &&& 31))
    rw [e1, q2, q3]
    exact ⟨_, by show n / 128 < 2; omega, rfl⟩
