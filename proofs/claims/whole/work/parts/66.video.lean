theorem oi1 : Int32.ofInt 1 = 1 := by decide
theorem nI_oi (a : Nat) : nI a + Int32.ofInt 1 = nI (a + 1) := by rw [oi1]; exact nI_1 a
theorem fl_00 {w : BS} (h1 : bq_delay w ≤ 0) (h2 : bq_tone w ≤ 0) : f_X5_fall w = w := (if_pos h1).trans (if_pos h2)
theorem fl_01 {w : BS} (h1 : bq_delay w ≤ 0) (h2 : ¬ bq_tone w ≤ 0) : f_X5_fall w = bs_tone w (bq_tone w - 1) := (if_pos h1).trans (if_neg h2)
theorem fl_10 {w : BS} (h1 : ¬ bq_delay w ≤ 0) (h2 : bq_tone w ≤ 0) : f_X5_fall w = bs_delay w (bq_delay w - 1) := (if_neg h1).trans (if_pos h2)
theorem fl_11 {w : BS} (h1 : ¬ bq_delay w ≤ 0) (h2 : ¬ bq_tone w ≤ 0) : f_X5_fall w = bs_tone (bs_delay w (bq_delay w - 1)) (bq_tone w - 1) := (if_neg h1).trans (if_neg h2)
theorem fl_place (w : BS) (p : Int32) : f_X5_fall (bs_place w p) = bs_place (f_X5_fall w) p := by
  by_cases h1 : bq_delay w ≤ 0
  · by_cases h2 : bq_tone w ≤ 0
    · rw [fl_00 h1 h2, fl_00 (w := bs_place w p) h1 h2]
    · rw [fl_01 h1 h2, fl_01 (w := bs_place w p) h1 h2]; rfl
  · by_cases h2 : bq_tone w ≤ 0
    · rw [fl_10 h1 h2, fl_10 (w := bs_place w p) h1 h2]; rfl
    · rw [fl_11 h1 h2, fl_11 (w := bs_place w p) h1 h2]; rfl
theorem fl_idle (w : BS) (p : Int32) : f_X5_fall (bs_idle w p) = bs_idle (f_X5_fall w) p := by
  by_cases h1 : bq_delay w ≤ 0
  · by_cases h2 : bq_tone w ≤ 0
    · rw [fl_00 h1 h2, fl_00 (w := bs_idle w p) h1 h2]
    · rw [fl_01 h1 h2, fl_01 (w := bs_idle w p) h1 h2]; rfl
  · by_cases h2 : bq_tone w ≤ 0
    · rw [fl_10 h1 h2, fl_10 (w := bs_idle w p) h1 h2]; rfl
    · rw [fl_11 h1 h2, fl_11 (w := bs_idle w p) h1 h2]; rfl
theorem r_pred {z : Int32} (hz : rg 256 z) (h : ¬ z ≤ 0) : rg 256 (z - 1) := by
  obtain ⟨n, h1, rfl⟩ := hz
  rcases Nat.eq_zero_or_pos n with rfl | h2
  · exact absurd (by decide) h
  · obtain ⟨k, rfl⟩ : ∃ k, n = k + 1 := ⟨n - 1, by omega⟩
    rw [nI_pred]; exact ⟨k, by omega, rfl⟩
theorem i_fall {w : BS} (h : Inv w) : Inv (f_X5_fall w) := by
  by_cases h1 : bq_delay w ≤ 0
  · by_cases h2 : bq_tone w ≤ 0
    · rw [fl_00 h1 h2]; exact h
    · rw [fl_01 h1 h2]; exact i_tone h (r_pred (r_tone h) h2)
  · by_cases h2 : bq_tone w ≤ 0
    · rw [fl_10 h1 h2]; exact i_delay h (r_pred (r_delay h) h1)
    · rw [fl_11 h1 h2]; exact i_tone (i_delay h (r_pred (r_delay h) h1)) (r_pred (r_tone h) h2)
def eN (w : BS) : BS := bs_intr (bs_frames (bs_line (bs_fetched w 0) 0) (bq_frames w + 1)) 0
theorem el_lt {w : BS} (h : bq_line w + 1 < 262) : f_X3_endLine w = bs_line (bs_fetched w 0) (bq_line w + 1) := if_pos h
theorem el_ge {w : BS} (h : ¬ bq_line w + 1 < 262) : f_X3_endLine w = f_X5_fall (eN w) := if_neg h
theorem el_place (w : BS) (p : Int32) : f_X3_endLine (bs_place w p) = bs_place (f_X3_endLine w) p := by
  by_cases h : bq_line w + 1 < 262
  · rw [el_lt h, el_lt (w := bs_place w p) h]; rfl
  · rw [el_ge h, el_ge (w := bs_place w p) h, ← fl_place]; rfl
theorem el_idle (w : BS) (p : Int32) : f_X3_endLine (bs_idle w p) = bs_idle (f_X3_endLine w) p := by
  by_cases h : bq_line w + 1 < 262
  · rw [el_lt h, el_lt (w := bs_idle w p) h]; rfl
  · rw [el_ge h, el_ge (w := bs_idle w p) h, ← fl_idle]; rfl
theorem i_endLine {w : BS} (h : Inv w) : Inv (f_X3_endLine w) := by
  have z2 : rg 2 0 := rg_0 (by decide)
  by_cases hl : bq_line w + 1 < 262
  · rw [el_lt hl]
    refine i_line (i_fetched h z2) ?_
    obtain ⟨k, hk, e⟩ := r_line h
    rw [e] at hl ⊢
    rw [show nI k + 1 = nI (k + 1) from nI_1 k] at hl ⊢
    have := (nI_ltI (a := k + 1) (b := 262) (by omega) (by omega)).mp hl
    exact ⟨k + 1, this, rfl⟩
  · rw [el_ge hl]
    exact i_fall (i_intr (i_frames (i_line (i_fetched h z2) (rg_0 (by decide)))) z2)
def pas0 (w : BS) : BS := if bq_place w < 14 then w else f_X3_endLine (bs_place w (bq_place w - 14))
theorem pass_eq (u : BS) (z : Int32) : f_X3_pass u z = pas0 (bs_place u (bq_place u + z)) := rfl
theorem pas_lt {w : BS} {k : Nat} (e : bq_place w = nI k) (hk : k < 14) : pas0 w = w := if_pos (by rw [e]; exact (nI_ltI (a := k) (b := 14) (by omega) (by omega)).mpr hk)
theorem pas_ge {w : BS} {k : Nat} (e : bq_place w = nI k) (hk : 14 ≤ k) (hk2 : k < 100) : pas0 w = f_X3_endLine (bs_place w (nI (k - 14))) := by
  have h : ¬ bq_place w < 14 := by rw [e]; exact fun q => absurd ((nI_ltI (a := k) (b := 14) (by omega) (by omega)).mp q) (by omega)
  refine (if_neg h).trans ?_
  rw [e, show nI k - 14 = nI (k - 14) from pk_sub hk]
theorem i_passN {u : BS} {n : Nat} (h : Inv u) (hn : n ≤ 14) : Inv (f_X3_pass u (nI n)) := by
  obtain ⟨k, hk, e⟩ := r_place h
  rw [pass_eq, e, nI_add]
  by_cases hl : k + n < 14
  · rw [pas_lt (k := k + n) rfl hl]; exact i_place h ⟨_, hl, rfl⟩
  · rw [pas_ge (k := k + n) rfl (by omega) (by omega)]
    show Inv (f_X3_endLine (bs_place u (nI (k + n - 14))))
    exact i_endLine (i_place h ⟨k + n - 14, by omega, rfl⟩)
theorem qp (w : BS) (p : Int32) : bq_place (bs_place w p) = p := rfl
theorem pass_add {u : BS} {j : Nat} (h : Inv u) (hj : j ≤ 12) : f_X3_pass (f_X3_pass u (nI j)) 1 = f_X3_pass u (nI (j + 1)) := by
  obtain ⟨k, hk, e⟩ := r_place h
  rw [pass_eq u, pass_eq u, e, nI_add, nI_add]
  by_cases hl : k + j < 14
  · rw [pas_lt (k := k + j) rfl hl, pass_eq]
    show pas0 (bs_place u (nI (k + j) + 1)) = _
    rw [show nI (k + j) + 1 = nI (k + (j + 1)) from nI_1 (k + j)]
  · rw [pas_ge (k := k + j) rfl (by omega) (by omega), pas_ge (k := k + (j + 1)) rfl (by omega) (by omega)]
    have g : ∀ p q, f_X3_endLine (bs_place (bs_place u p) q) = bs_place (f_X3_endLine u) q := by
      intro p q
      show f_X3_endLine (bs_place u q) = _
      rw [el_place]
    rw [g, g, pass_eq, qp, show nI (k + j - 14) + 1 = nI (k + (j + 1) - 14) from by rw [show k + (j + 1) - 14 = k + j - 14 + 1 by omega]; exact nI_1 _]
    rw [pas_lt (k := k + (j + 1) - 14) (qp _ _) (by omega)]; rfl
theorem pass_idle {w : BS} {n : Nat} (h : Inv w) (hn : n ≤ 14) (z : Int32) : f_X3_pass (bs_idle w z) (nI n) = bs_idle (f_X3_pass w (nI n)) z := by
  obtain ⟨k, hk, e⟩ := r_place h
  rw [pass_eq, pass_eq]
  show pas0 (bs_place (bs_idle w z) (bq_place w + nI n)) = _
  rw [e, nI_add]
  by_cases hl : k + n < 14
  · rw [pas_lt (k := k + n) rfl hl, pas_lt (k := k + n) rfl hl]; rfl
  · rw [pas_ge (k := k + n) rfl (by omega) (by omega), pas_ge (k := k + n) rfl (by omega) (by omega), ← el_idle]; rfl
def fallM (m : MS) : MS := if (mq_v m 19) ≤ 0 then (if (mq_v m 20) ≤ 0 then m else ms_v m (upd (mq_v m) 20 ((mq_v m 20) - 1))) else (if (mq_v (ms_v m (upd (mq_v m) 19 ((mq_v m 19) - 1))) 20) ≤ 0 then (ms_v m (upd (mq_v m) 19 ((mq_v m 19) - 1))) else ms_v (ms_v m (upd (mq_v m) 19 ((mq_v m 19) - 1))) (upd (mq_v (ms_v m (upd (mq_v m) 19 ((mq_v m 19) - 1)))) 20 ((mq_v (ms_v m (upd (mq_v m) 19 ((mq_v m 19) - 1))) 20) - 1)))
theorem s_fall (th : Int32) (w : BS) : fallM (aM th w) = aM th (f_X5_fall w) := by
  unfold fallM
  simp only [m_delay, m_tone, M_delay, M_tone]
  by_cases h1 : bq_delay w ≤ 0
  · by_cases h2 : bq_tone w ≤ 0
    · rw [fl_00 h1 h2, if_pos h1, if_pos h2]
    · rw [fl_01 h1 h2, if_pos h1, if_neg h2]
  · by_cases h2 : bq_tone w ≤ 0
    · rw [fl_10 h1 h2, if_neg h1]; exact if_pos h2
    · rw [fl_11 h1 h2, if_neg h1]; exact if_neg h2
theorem s_cycle {u : BS} (th : Int32) (h : Inv u) : f_X7_cycle (aM th u) = aM th (f_X3_pass u 1) := by
  obtain ⟨k, hk, e⟩ := r_place h
  have e1 : bq_place u + 1 = nI (k + 1) := by rw [e]; exact nI_1 k
  by_cases hl : k + 1 < 14
  · have a1 : ¬ 14 ≤ bq_place u + 1 := by rw [e1]; exact fun q => absurd ((nI_leI (a := 14) (b := k + 1) (by omega) (by omega)).mp q) (by omega)
    have a2 : f_X7_cycle (aM th u) = aM th (bs_place u (bq_place u + 1)) := if_neg a1
    rw [a2, pass_eq, e1, pas_lt (k := k + 1) rfl hl]
  · have a1 : 14 ≤ bq_place u + 1 := by rw [e1]; exact (nI_leI (a := 14) (b := k + 1) (by omega) (by omega)).mpr (by omega)
    have a3 : f_X3_pass u 1 = f_X3_endLine (bs_place u 0) := by
      rw [pass_eq, e1, pas_ge (k := k + 1) rfl (by omega) (by omega), show k + 1 - 14 = 0 by omega]; rfl
    rw [a3]
    by_cases hn : bq_line u + 1 < 262
    · have a4 : ¬ 262 ≤ bq_line u + 1 := by rw [Int32.lt_iff_toInt_lt] at hn; rw [Int32.le_iff_toInt_le]; omega
      have a2 : f_X7_cycle (aM th u) = aM th (bs_line (bs_fetched (bs_place u 0) 0) (bq_line u + 1)) := (if_pos a1).trans (if_neg a4)
      rw [a2, el_lt (w := bs_place u 0) hn]; rfl
    · have a4 : 262 ≤ bq_line u + 1 := by rw [Int32.lt_iff_toInt_lt] at hn; rw [Int32.le_iff_toInt_le]; omega
      have a2 : f_X7_cycle (aM th u) = fallM (aM th (eN (bs_place u 0))) := (if_pos a1).trans (if_pos a4)
      rw [a2, el_ge (w := bs_place u 0) hn, s_fall]
def pa (u : BS) (n : Nat) : BS := if n = 0 then u else f_X3_pass u (nI n)
theorem pa_0 (u : BS) : pa u 0 = u := if_pos rfl
theorem pa_s (u : BS) (n : Nat) : pa u (n + 1) = f_X3_pass u (nI (n + 1)) := if_neg (by omega)
theorem i_pa {u : BS} {n : Nat} (h : Inv u) (hn : n ≤ 14) : Inv (pa u n) := by
  cases n with
  | zero => rw [pa_0]; exact h
  | succ n => rw [pa_s]; exact i_passN h hn
theorem pa_add {u : BS} {n : Nat} (h : Inv u) (hn : n ≤ 12) : f_X3_pass (pa u n) 1 = pa u (n + 1) := by
  cases n with
  | zero => rw [pa_0, pa_s]; rfl
  | succ n => rw [pa_s, pa_s, pass_add h hn]
theorem s_cyc {u : BS} {n : Nat} (th : Int32) (h : Inv u) (hn : n ≤ 8) : ∀ d fuel a : Nat, a + d = n → d < fuel → ok_X7_cycles_L fuel (aM th (pa u a)) (nI n) (nI a) ∧ f_X7_cycles_L fuel (aM th (pa u a)) (nI n) (nI a) = aM th (pa u n)
  | 0, fuel + 1, a, ha, _ => by
    have e : nI n ≤ nI a := nI_le (by omega) (by omega)
    have e2 : a = n := by omega
    subst e2
    refine ⟨?_, if_pos e⟩
    unfold ok_X7_cycles_L
    rw [if_pos e]; exact trivial
  | d + 1, fuel + 1, a, ha, hf => by
    have e : ¬ nI n ≤ nI a := nI_ge (by omega) (by omega)
    obtain ⟨q1, q2⟩ := s_cyc th h hn d fuel (a + 1) (by omega) (by omega)
    have ec : f_X7_cycle (aM th (pa u a)) = aM th (pa u (a + 1)) := by rw [s_cycle th (i_pa h (by omega)), pa_add h (by omega)]
    refine ⟨?_, ?_⟩
    · unfold ok_X7_cycles_L
      rw [if_neg e]
      show ok_X7_cycles_L fuel (f_X7_cycle (aM th (pa u a))) (nI n) (nI a + Int32.ofInt 1)
      rw [ec, nI_oi]; exact q1
    · refine (if_neg e).trans ?_
      show f_X7_cycles_L fuel (f_X7_cycle (aM th (pa u a))) (nI n) (nI a + Int32.ofInt 1) = _
      rw [ec, nI_oi]; exact q2
theorem s_cycles {u : BS} {n : Nat} (th : Int32) (h : Inv u) (hn : n ≤ 8) : ok_X7_cycles (aM th u) (nI n) ∧ f_X7_cycles (aM th u) (nI n) = aM th (pa u n) := by
  have q := s_cyc th h hn n 9 0 (by omega) (by omega)
  rw [pa_0] at q
  exact q
