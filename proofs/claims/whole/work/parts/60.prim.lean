theorem aS_lt {u : BS} {j : Nat} (h : j < 16) : aS u j = bq_regs u j := by
  unfold aS
  rw [if_neg (by omega), if_neg (by omega), if_neg (by omega), if_neg (by omega), if_neg (by omega), if_neg (by omega), if_neg (by omega), if_neg (by omega)]
theorem aV_lt {u : BS} {j : Nat} (h : j < 16) : aV u j = bq_vars u j := by
  unfold aV
  rw [if_neg (by omega), if_neg (by omega), if_neg (by omega), if_neg (by omega), if_neg (by omega), if_neg (by omega)]
theorem aS_16 (u : BS) (z : Int32) : upd (aS u) 16 z = aS (bs_d u z) := by
  funext i
  by_cases h : i = 16
  · subst h; rfl
  · rw [pk_un h]; unfold aS; simp only [if_neg h]; rfl
theorem M_d (th : Int32) (u : BS) (z : Int32) : ms_s (aM th u) (upd (mq_s (aM th u)) 16 z) = aM th (bs_d u z) := by
  show ms_s (aM th u) (upd (aS u) 16 z) = aM th (bs_d u z)
  rw [aS_16]; rfl
theorem m_d (th : Int32) (u : BS) : mq_s (aM th u) 16 = bq_d u := rfl
theorem aS_17 (u : BS) (z : Int32) : upd (aS u) 17 z = aS (bs_df u z) := by
  funext i
  by_cases h : i = 17
  · subst h; rfl
  · rw [pk_un h]; unfold aS; simp only [if_neg h]; rfl
theorem M_df (th : Int32) (u : BS) (z : Int32) : ms_s (aM th u) (upd (mq_s (aM th u)) 17 z) = aM th (bs_df u z) := by
  show ms_s (aM th u) (upd (aS u) 17 z) = aM th (bs_df u z)
  rw [aS_17]; rfl
theorem m_df (th : Int32) (u : BS) : mq_s (aM th u) 17 = bq_df u := rfl
theorem aS_18 (u : BS) (z : Int32) : upd (aS u) 18 z = aS (bs_p u z) := by
  funext i
  by_cases h : i = 18
  · subst h; rfl
  · rw [pk_un h]; unfold aS; simp only [if_neg h]; rfl
theorem M_p (th : Int32) (u : BS) (z : Int32) : ms_s (aM th u) (upd (mq_s (aM th u)) 18 z) = aM th (bs_p u z) := by
  show ms_s (aM th u) (upd (aS u) 18 z) = aM th (bs_p u z)
  rw [aS_18]; rfl
theorem m_p (th : Int32) (u : BS) : mq_s (aM th u) 18 = bq_p u := rfl
theorem aS_19 (u : BS) (z : Int32) : upd (aS u) 19 z = aS (bs_x u z) := by
  funext i
  by_cases h : i = 19
  · subst h; rfl
  · rw [pk_un h]; unfold aS; simp only [if_neg h]; rfl
theorem M_x (th : Int32) (u : BS) (z : Int32) : ms_s (aM th u) (upd (mq_s (aM th u)) 19 z) = aM th (bs_x u z) := by
  show ms_s (aM th u) (upd (aS u) 19 z) = aM th (bs_x u z)
  rw [aS_19]; rfl
theorem m_x (th : Int32) (u : BS) : mq_s (aM th u) 19 = bq_x u := rfl
theorem aS_20 (u : BS) (z : Int32) : upd (aS u) 20 z = aS (bs_t u z) := by
  funext i
  by_cases h : i = 20
  · subst h; rfl
  · rw [pk_un h]; unfold aS; simp only [if_neg h]; rfl
theorem M_t (th : Int32) (u : BS) (z : Int32) : ms_s (aM th u) (upd (mq_s (aM th u)) 20 z) = aM th (bs_t u z) := by
  show ms_s (aM th u) (upd (aS u) 20 z) = aM th (bs_t u z)
  rw [aS_20]; rfl
theorem m_t (th : Int32) (u : BS) : mq_s (aM th u) 20 = bq_t u := rfl
theorem aS_21 (u : BS) (z : Int32) : upd (aS u) 21 z = aS (bs_ie u z) := by
  funext i
  by_cases h : i = 21
  · subst h; rfl
  · rw [pk_un h]; unfold aS; simp only [if_neg h]; rfl
theorem M_ie (th : Int32) (u : BS) (z : Int32) : ms_s (aM th u) (upd (mq_s (aM th u)) 21 z) = aM th (bs_ie u z) := by
  show ms_s (aM th u) (upd (aS u) 21 z) = aM th (bs_ie u z)
  rw [aS_21]; rfl
theorem m_ie (th : Int32) (u : BS) : mq_s (aM th u) 21 = bq_ie u := rfl
theorem aS_22 (u : BS) (z : Int32) : upd (aS u) 22 z = aS (bs_q u z) := by
  funext i
  by_cases h : i = 22
  · subst h; rfl
  · rw [pk_un h]; unfold aS; simp only [if_neg h]; rfl
theorem M_q (th : Int32) (u : BS) (z : Int32) : ms_s (aM th u) (upd (mq_s (aM th u)) 22 z) = aM th (bs_q u z) := by
  show ms_s (aM th u) (upd (aS u) 22 z) = aM th (bs_q u z)
  rw [aS_22]; rfl
theorem m_q (th : Int32) (u : BS) : mq_s (aM th u) 22 = bq_q u := rfl
theorem aS_23 (u : BS) (z : Int32) : upd (aS u) 23 z = aS (bs_idle u z) := by
  funext i
  by_cases h : i = 23
  · subst h; rfl
  · rw [pk_un h]; unfold aS; simp only [if_neg h]; rfl
theorem M_idle (th : Int32) (u : BS) (z : Int32) : ms_s (aM th u) (upd (mq_s (aM th u)) 23 z) = aM th (bs_idle u z) := by
  show ms_s (aM th u) (upd (aS u) 23 z) = aM th (bs_idle u z)
  rw [aS_23]; rfl
theorem m_idle (th : Int32) (u : BS) : mq_s (aM th u) 23 = bq_idle u := rfl
theorem aS_r {u : BS} {j : Nat} (hj : j < 16) (z : Int32) : upd (aS u) j z = aS (bs_regs u (upd (bq_regs u) j z)) := by
  funext i
  by_cases h : i = j
  · subst h
    rw [pk_us, aS_lt hj]
    exact pk_us.symm
  · rw [pk_un h]
    have e : bq_regs (bs_regs u (upd (bq_regs u) j z)) i = bq_regs u i := pk_un h
    unfold aS
    rw [e]
    rfl
theorem M_regs {j : Nat} (hj : j < 16) (th : Int32) (u : BS) (z : Int32) : ms_s (aM th u) (upd (mq_s (aM th u)) j z) = aM th (bs_regs u (upd (bq_regs u) j z)) := by
  show ms_s (aM th u) (upd (aS u) j z) = _
  rw [aS_r hj]; rfl
theorem m_regs {j : Nat} (hj : j < 16) (th : Int32) (u : BS) : mq_s (aM th u) j = bq_regs u j := aS_lt hj
theorem aV_16 (u : BS) (z : Int32) : upd (aV u) 16 z = aV (bs_index u z) := by
  funext i
  by_cases h : i = 16
  · subst h; rfl
  · rw [pk_un h]; unfold aV; simp only [if_neg h]; rfl
theorem M_index (th : Int32) (u : BS) (z : Int32) : ms_v (aM th u) (upd (mq_v (aM th u)) 16 z) = aM th (bs_index u z) := by
  show ms_v (aM th u) (upd (aV u) 16 z) = aM th (bs_index u z)
  rw [aV_16]; rfl
theorem m_index (th : Int32) (u : BS) : mq_v (aM th u) 16 = bq_index u := rfl
theorem aV_17 (u : BS) (z : Int32) : upd (aV u) 17 z = aV (bs_pc u z) := by
  funext i
  by_cases h : i = 17
  · subst h; rfl
  · rw [pk_un h]; unfold aV; simp only [if_neg h]; rfl
theorem M_pc (th : Int32) (u : BS) (z : Int32) : ms_v (aM th u) (upd (mq_v (aM th u)) 17 z) = aM th (bs_pc u z) := by
  show ms_v (aM th u) (upd (aV u) 17 z) = aM th (bs_pc u z)
  rw [aV_17]; rfl
theorem m_pc (th : Int32) (u : BS) : mq_v (aM th u) 17 = bq_pc u := rfl
theorem aV_18 (u : BS) (z : Int32) : upd (aV u) 18 z = aV (bs_depth u z) := by
  funext i
  by_cases h : i = 18
  · subst h; rfl
  · rw [pk_un h]; unfold aV; simp only [if_neg h]; rfl
theorem M_depth (th : Int32) (u : BS) (z : Int32) : ms_v (aM th u) (upd (mq_v (aM th u)) 18 z) = aM th (bs_depth u z) := by
  show ms_v (aM th u) (upd (aV u) 18 z) = aM th (bs_depth u z)
  rw [aV_18]; rfl
theorem m_depth (th : Int32) (u : BS) : mq_v (aM th u) 18 = bq_depth u := rfl
theorem aV_19 (u : BS) (z : Int32) : upd (aV u) 19 z = aV (bs_delay u z) := by
  funext i
  by_cases h : i = 19
  · subst h; rfl
  · rw [pk_un h]; unfold aV; simp only [if_neg h]; rfl
theorem M_delay (th : Int32) (u : BS) (z : Int32) : ms_v (aM th u) (upd (mq_v (aM th u)) 19 z) = aM th (bs_delay u z) := by
  show ms_v (aM th u) (upd (aV u) 19 z) = aM th (bs_delay u z)
  rw [aV_19]; rfl
theorem m_delay (th : Int32) (u : BS) : mq_v (aM th u) 19 = bq_delay u := rfl
theorem aV_20 (u : BS) (z : Int32) : upd (aV u) 20 z = aV (bs_tone u z) := by
  funext i
  by_cases h : i = 20
  · subst h; rfl
  · rw [pk_un h]; unfold aV; simp only [if_neg h]; rfl
theorem M_tone (th : Int32) (u : BS) (z : Int32) : ms_v (aM th u) (upd (mq_v (aM th u)) 20 z) = aM th (bs_tone u z) := by
  show ms_v (aM th u) (upd (aV u) 20 z) = aM th (bs_tone u z)
  rw [aV_20]; rfl
theorem m_tone (th : Int32) (u : BS) : mq_v (aM th u) 20 = bq_tone u := rfl
theorem aV_21 (u : BS) (z : Int32) : upd (aV u) 21 z = aV (bs_random u z) := by
  funext i
  by_cases h : i = 21
  · subst h; rfl
  · rw [pk_un h]; unfold aV; simp only [if_neg h]; rfl
theorem M_random (th : Int32) (u : BS) (z : Int32) : ms_v (aM th u) (upd (mq_v (aM th u)) 21 z) = aM th (bs_random u z) := by
  show ms_v (aM th u) (upd (aV u) 21 z) = aM th (bs_random u z)
  rw [aV_21]; rfl
theorem m_random (th : Int32) (u : BS) : mq_v (aM th u) 21 = bq_random u := rfl
theorem aV_r {u : BS} {j : Nat} (hj : j < 16) (z : Int32) : upd (aV u) j z = aV (bs_vars u (upd (bq_vars u) j z)) := by
  funext i
  by_cases h : i = j
  · subst h
    rw [pk_us, aV_lt hj]
    exact pk_us.symm
  · rw [pk_un h]
    have e : bq_vars (bs_vars u (upd (bq_vars u) j z)) i = bq_vars u i := pk_un h
    unfold aV
    rw [e]
    rfl
theorem M_vars {j : Nat} (hj : j < 16) (th : Int32) (u : BS) (z : Int32) : ms_v (aM th u) (upd (mq_v (aM th u)) j z) = aM th (bs_vars u (upd (bq_vars u) j z)) := by
  show ms_v (aM th u) (upd (aV u) j z) = _
  rw [aV_r hj]; rfl
theorem m_vars {j : Nat} (hj : j < 16) (th : Int32) (u : BS) : mq_v (aM th u) j = bq_vars u j := aV_lt hj
theorem M_mem (th : Int32) (u : BS) (z : (Nat → Int32)) : ms_mem (aM th u) z = aM th (bs_mem u z) := rfl
theorem m_mem (th : Int32) (u : BS) : mq_mem (aM th u) = bq_mem u := rfl
theorem M_back (th : Int32) (u : BS) (z : (Nat → Int32)) : ms_back (aM th u) z = aM th (bs_stk u z) := rfl
theorem m_back (th : Int32) (u : BS) : mq_back (aM th u) = bq_stk u := rfl
theorem M_down (th : Int32) (u : BS) (z : (Nat → Int32)) : ms_down (aM th u) z = aM th (bs_keys u z) := rfl
theorem m_down (th : Int32) (u : BS) : mq_down (aM th u) = bq_keys u := rfl
theorem M_shown (th : Int32) (u : BS) (z : (Nat → Int32)) : ms_shown (aM th u) z = aM th (bs_screen u z) := rfl
theorem m_shown (th : Int32) (u : BS) : mq_shown (aM th u) = bq_screen u := rfl
theorem M_on (th : Int32) (u : BS) (z : Int32) : ms_on (aM th u) z = aM th (bs_on u z) := rfl
theorem m_on (th : Int32) (u : BS) : mq_on (aM th u) = bq_on u := rfl
theorem M_line (th : Int32) (u : BS) (z : Int32) : ms_line (aM th u) z = aM th (bs_line u z) := rfl
theorem m_line (th : Int32) (u : BS) : mq_line (aM th u) = bq_line u := rfl
theorem M_place (th : Int32) (u : BS) (z : Int32) : ms_place (aM th u) z = aM th (bs_place u z) := rfl
theorem m_place (th : Int32) (u : BS) : mq_place (aM th u) = bq_place u := rfl
theorem M_frames (th : Int32) (u : BS) (z : Int32) : ms_frames (aM th u) z = aM th (bs_frames u z) := rfl
theorem m_frames (th : Int32) (u : BS) : mq_frames (aM th u) = bq_frames u := rfl
theorem M_fetched (th : Int32) (u : BS) (z : Int32) : ms_fetched (aM th u) z = aM th (bs_fetched u z) := rfl
theorem m_fetched (th : Int32) (u : BS) : mq_fetched (aM th u) = bq_fetched u := rfl
theorem M_intr (th : Int32) (u : BS) (z : Int32) : ms_intr (aM th u) z = aM th (bs_intr u z) := rfl
theorem m_intr (th : Int32) (u : BS) : mq_intr (aM th u) = bq_intr u := rfl
theorem M_latch (th : Int32) (u : BS) (z : Int32) : ms_latch (aM th u) z = aM th (bs_asked u z) := rfl
theorem m_latch (th : Int32) (u : BS) : mq_latch (aM th u) = bq_asked u := rfl
theorem M_thrown (th : Int32) (u : BS) (z : Int32) : ms_thrown (aM th u) z = aM z u := rfl
theorem i_asked {u : BS} {z : Int32} (h : Inv u) (hz : rg 16 z) : Inv (bs_asked u z) := ⟨h.1, ⟨h.2.1.1, hz⟩, h.2.2⟩
theorem i_delay {u : BS} {z : Int32} (h : Inv u) (hz : rg 256 z) : Inv (bs_delay u z) := ⟨h.1, h.2.1, ⟨hz, h.2.2.1.2⟩, h.2.2.2⟩
theorem i_tone {u : BS} {z : Int32} (h : Inv u) (hz : rg 256 z) : Inv (bs_tone u z) := ⟨h.1, h.2.1, ⟨h.2.2.1.1, hz⟩, h.2.2.2⟩
theorem i_on {u : BS} {z : Int32} (h : Inv u) (hz : rg 2 z) : Inv (bs_on u z) := ⟨h.1, h.2.1, h.2.2.1, ⟨hz, h.2.2.2.1.2.1, h.2.2.2.1.2.2.1, h.2.2.2.1.2.2.2.1, h.2.2.2.1.2.2.2.2⟩, h.2.2.2.2⟩
theorem i_line {u : BS} {z : Int32} (h : Inv u) (hz : rg 262 z) : Inv (bs_line u z) := ⟨h.1, h.2.1, h.2.2.1, ⟨h.2.2.2.1.1, hz, h.2.2.2.1.2.2.1, h.2.2.2.1.2.2.2.1, h.2.2.2.1.2.2.2.2⟩, h.2.2.2.2⟩
theorem i_place {u : BS} {z : Int32} (h : Inv u) (hz : rg 14 z) : Inv (bs_place u z) := ⟨h.1, h.2.1, h.2.2.1, ⟨h.2.2.2.1.1, h.2.2.2.1.2.1, hz, h.2.2.2.1.2.2.2.1, h.2.2.2.1.2.2.2.2⟩, h.2.2.2.2⟩
theorem i_fetched {u : BS} {z : Int32} (h : Inv u) (hz : rg 2 z) : Inv (bs_fetched u z) := ⟨h.1, h.2.1, h.2.2.1, ⟨h.2.2.2.1.1, h.2.2.2.1.2.1, h.2.2.2.1.2.2.1, hz, h.2.2.2.1.2.2.2.2⟩, h.2.2.2.2⟩
theorem i_intr {u : BS} {z : Int32} (h : Inv u) (hz : rg 2 z) : Inv (bs_intr u z) := ⟨h.1, h.2.1, h.2.2.1, ⟨h.2.2.2.1.1, h.2.2.2.1.2.1, h.2.2.2.1.2.2.1, h.2.2.2.1.2.2.2.1, hz⟩, h.2.2.2.2⟩
theorem i_d {u : BS} {z : Int32} (h : Inv u) (hz : rg 256 z) : Inv (bs_d u z) := ⟨h.1, h.2.1, h.2.2.1, h.2.2.2.1, ⟨h.2.2.2.2.1.1, hz, h.2.2.2.2.1.2.2.1, h.2.2.2.2.1.2.2.2.1, h.2.2.2.2.1.2.2.2.2.1, h.2.2.2.2.1.2.2.2.2.2.1, h.2.2.2.2.1.2.2.2.2.2.2.1, h.2.2.2.2.1.2.2.2.2.2.2.2.1, h.2.2.2.2.1.2.2.2.2.2.2.2.2⟩, h.2.2.2.2.2⟩
theorem i_df {u : BS} {z : Int32} (h : Inv u) (hz : rg 2 z) : Inv (bs_df u z) := ⟨h.1, h.2.1, h.2.2.1, h.2.2.2.1, ⟨h.2.2.2.2.1.1, h.2.2.2.2.1.2.1, hz, h.2.2.2.2.1.2.2.2.1, h.2.2.2.2.1.2.2.2.2.1, h.2.2.2.2.1.2.2.2.2.2.1, h.2.2.2.2.1.2.2.2.2.2.2.1, h.2.2.2.2.1.2.2.2.2.2.2.2.1, h.2.2.2.2.1.2.2.2.2.2.2.2.2⟩, h.2.2.2.2.2⟩
theorem i_p {u : BS} {z : Int32} (h : Inv u) (hz : rg 16 z) : Inv (bs_p u z) := ⟨h.1, h.2.1, h.2.2.1, h.2.2.2.1, ⟨h.2.2.2.2.1.1, h.2.2.2.2.1.2.1, h.2.2.2.2.1.2.2.1, hz, h.2.2.2.2.1.2.2.2.2.1, h.2.2.2.2.1.2.2.2.2.2.1, h.2.2.2.2.1.2.2.2.2.2.2.1, h.2.2.2.2.1.2.2.2.2.2.2.2.1, h.2.2.2.2.1.2.2.2.2.2.2.2.2⟩, h.2.2.2.2.2⟩
theorem i_x {u : BS} {z : Int32} (h : Inv u) (hz : rg 16 z) : Inv (bs_x u z) := ⟨h.1, h.2.1, h.2.2.1, h.2.2.2.1, ⟨h.2.2.2.2.1.1, h.2.2.2.2.1.2.1, h.2.2.2.2.1.2.2.1, h.2.2.2.2.1.2.2.2.1, hz, h.2.2.2.2.1.2.2.2.2.2.1, h.2.2.2.2.1.2.2.2.2.2.2.1, h.2.2.2.2.1.2.2.2.2.2.2.2.1, h.2.2.2.2.1.2.2.2.2.2.2.2.2⟩, h.2.2.2.2.2⟩
theorem i_t {u : BS} {z : Int32} (h : Inv u) (hz : rg 256 z) : Inv (bs_t u z) := ⟨h.1, h.2.1, h.2.2.1, h.2.2.2.1, ⟨h.2.2.2.2.1.1, h.2.2.2.2.1.2.1, h.2.2.2.2.1.2.2.1, h.2.2.2.2.1.2.2.2.1, h.2.2.2.2.1.2.2.2.2.1, hz, h.2.2.2.2.1.2.2.2.2.2.2.1, h.2.2.2.2.1.2.2.2.2.2.2.2.1, h.2.2.2.2.1.2.2.2.2.2.2.2.2⟩, h.2.2.2.2.2⟩
theorem i_ie {u : BS} {z : Int32} (h : Inv u) (hz : rg 2 z) : Inv (bs_ie u z) := ⟨h.1, h.2.1, h.2.2.1, h.2.2.2.1, ⟨h.2.2.2.2.1.1, h.2.2.2.2.1.2.1, h.2.2.2.2.1.2.2.1, h.2.2.2.2.1.2.2.2.1, h.2.2.2.2.1.2.2.2.2.1, h.2.2.2.2.1.2.2.2.2.2.1, hz, h.2.2.2.2.1.2.2.2.2.2.2.2.1, h.2.2.2.2.1.2.2.2.2.2.2.2.2⟩, h.2.2.2.2.2⟩
theorem i_q {u : BS} {z : Int32} (h : Inv u) (hz : rg 2 z) : Inv (bs_q u z) := ⟨h.1, h.2.1, h.2.2.1, h.2.2.2.1, ⟨h.2.2.2.2.1.1, h.2.2.2.2.1.2.1, h.2.2.2.2.1.2.2.1, h.2.2.2.2.1.2.2.2.1, h.2.2.2.2.1.2.2.2.2.1, h.2.2.2.2.1.2.2.2.2.2.1, h.2.2.2.2.1.2.2.2.2.2.2.1, hz, h.2.2.2.2.1.2.2.2.2.2.2.2.2⟩, h.2.2.2.2.2⟩
theorem i_idle {u : BS} {z : Int32} (h : Inv u) (hz : rg 2 z) : Inv (bs_idle u z) := ⟨h.1, h.2.1, h.2.2.1, h.2.2.2.1, ⟨h.2.2.2.2.1.1, h.2.2.2.2.1.2.1, h.2.2.2.2.1.2.2.1, h.2.2.2.2.1.2.2.2.1, h.2.2.2.2.1.2.2.2.2.1, h.2.2.2.2.1.2.2.2.2.2.1, h.2.2.2.2.1.2.2.2.2.2.2.1, h.2.2.2.2.1.2.2.2.2.2.2.2.1, hz⟩, h.2.2.2.2.2⟩
theorem i_depth {u : BS} {z : Int32} (h : Inv u) (hz : rg 13 z) : Inv (bs_depth u z) := ⟨h.1, h.2.1, h.2.2.1, h.2.2.2.1, h.2.2.2.2.1, ⟨h.2.2.2.2.2.1, h.2.2.2.2.2.2.1, hz, h.2.2.2.2.2.2.2.2.1, h.2.2.2.2.2.2.2.2.2.1, h.2.2.2.2.2.2.2.2.2.2⟩⟩
theorem i_index {u : BS} {z : Int32} (h : Inv u) (hz : rg 4096 z) : Inv (bs_index u z) := ⟨h.1, h.2.1, h.2.2.1, h.2.2.2.1, h.2.2.2.2.1, ⟨h.2.2.2.2.2.1, h.2.2.2.2.2.2.1, h.2.2.2.2.2.2.2.1, hz, h.2.2.2.2.2.2.2.2.2.1, h.2.2.2.2.2.2.2.2.2.2⟩⟩
theorem i_pc {u : BS} {z : Int32} (h : Inv u) (hz : rg 4096 z) : Inv (bs_pc u z) := ⟨h.1, h.2.1, h.2.2.1, h.2.2.2.1, h.2.2.2.2.1, ⟨h.2.2.2.2.2.1, h.2.2.2.2.2.2.1, h.2.2.2.2.2.2.2.1, h.2.2.2.2.2.2.2.2.1, hz, h.2.2.2.2.2.2.2.2.2.2⟩⟩
theorem i_random {u : BS} {z : Int32} (h : Inv u) (hz : rg 256 z) : Inv (bs_random u z) := ⟨h.1, h.2.1, h.2.2.1, h.2.2.2.1, h.2.2.2.2.1, ⟨h.2.2.2.2.2.1, h.2.2.2.2.2.2.1, h.2.2.2.2.2.2.2.1, h.2.2.2.2.2.2.2.2.1, h.2.2.2.2.2.2.2.2.2.1, hz⟩⟩
theorem i_frames {u : BS} {z : Int32} (h : Inv u) : Inv (bs_frames u z) := h
theorem i_screen {u : BS} {z : Nat → Int32} (h : Inv u) : Inv (bs_screen u z) := h
theorem i_mem {u : BS} {j : Nat} {z : Int32} (h : Inv u) (hz : rg 256 z) : Inv (bs_mem u (upd (bq_mem u) j z)) := by
  have key : ∀ i, i < 2048 → rg 256 (bq_mem (bs_mem u (upd (bq_mem u) j z)) i) := by
    intro i hi
    by_cases e : i = j
    · subst e
      show rg 256 (upd (bq_mem u) i z i)
      rw [pk_us]; exact hz
    · show rg 256 (upd (bq_mem u) j z i)
      rw [pk_un e]; exact h.1 i hi
  exact ⟨key, h.2⟩
theorem i_keys {u : BS} {j : Nat} {z : Int32} (h : Inv u) (hz : rg 2 z) : Inv (bs_keys u (upd (bq_keys u) j z)) := by
  have key : ∀ i, i < 16 → rg 2 (bq_keys (bs_keys u (upd (bq_keys u) j z)) i) := by
    intro i hi
    by_cases e : i = j
    · subst e
      show rg 2 (upd (bq_keys u) i z i)
      rw [pk_us]; exact hz
    · show rg 2 (upd (bq_keys u) j z i)
      rw [pk_un e]; exact h.2.1.1 i hi
  exact ⟨h.1, ⟨key, h.2.1.2⟩, h.2.2⟩
theorem i_regs {u : BS} {j : Nat} {z : Int32} (h : Inv u) (hz : rg 65536 z) : Inv (bs_regs u (upd (bq_regs u) j z)) := by
  have key : ∀ i, i < 16 → rg 65536 (bq_regs (bs_regs u (upd (bq_regs u) j z)) i) := by
    intro i hi
    by_cases e : i = j
    · subst e
      show rg 65536 (upd (bq_regs u) i z i)
      rw [pk_us]; exact hz
    · show rg 65536 (upd (bq_regs u) j z i)
      rw [pk_un e]; exact h.2.2.2.2.1.1 i hi
  exact ⟨h.1, h.2.1, h.2.2.1, h.2.2.2.1, ⟨key, h.2.2.2.2.1.2⟩, h.2.2.2.2.2⟩
theorem i_vars {u : BS} {j : Nat} {z : Int32} (h : Inv u) (hz : rg 256 z) : Inv (bs_vars u (upd (bq_vars u) j z)) := by
  have key : ∀ i, i < 16 → rg 256 (bq_vars (bs_vars u (upd (bq_vars u) j z)) i) := by
    intro i hi
    by_cases e : i = j
    · subst e
      show rg 256 (upd (bq_vars u) i z i)
      rw [pk_us]; exact hz
    · show rg 256 (upd (bq_vars u) j z i)
      rw [pk_un e]; exact h.2.2.2.2.2.1 i hi
  exact ⟨h.1, h.2.1, h.2.2.1, h.2.2.2.1, h.2.2.2.2.1, ⟨key, h.2.2.2.2.2.2⟩⟩
theorem i_stk {u : BS} {j : Nat} {z : Int32} (h : Inv u) (hz : rg 4096 z) : Inv (bs_stk u (upd (bq_stk u) j z)) := by
  have key : ∀ i, i < 12 → rg 4096 (bq_stk (bs_stk u (upd (bq_stk u) j z)) i) := by
    intro i hi
    by_cases e : i = j
    · subst e
      show rg 4096 (upd (bq_stk u) i z i)
      rw [pk_us]; exact hz
    · show rg 4096 (upd (bq_stk u) j z i)
      rw [pk_un e]; exact h.2.2.2.2.2.2.1 i hi
  exact ⟨h.1, h.2.1, h.2.2.1, h.2.2.2.1, h.2.2.2.2.1, ⟨h.2.2.2.2.2.1, key, h.2.2.2.2.2.2.2⟩⟩
theorem r_asked {u : BS} (h : Inv u) : rg 16 (bq_asked u) := h.2.1.2
theorem r_delay {u : BS} (h : Inv u) : rg 256 (bq_delay u) := h.2.2.1.1
theorem r_tone {u : BS} (h : Inv u) : rg 256 (bq_tone u) := h.2.2.1.2
theorem r_on {u : BS} (h : Inv u) : rg 2 (bq_on u) := h.2.2.2.1.1
theorem r_line {u : BS} (h : Inv u) : rg 262 (bq_line u) := h.2.2.2.1.2.1
theorem r_place {u : BS} (h : Inv u) : rg 14 (bq_place u) := h.2.2.2.1.2.2.1
theorem r_fetched {u : BS} (h : Inv u) : rg 2 (bq_fetched u) := h.2.2.2.1.2.2.2.1
theorem r_intr {u : BS} (h : Inv u) : rg 2 (bq_intr u) := h.2.2.2.1.2.2.2.2
theorem r_d {u : BS} (h : Inv u) : rg 256 (bq_d u) := h.2.2.2.2.1.2.1
theorem r_df {u : BS} (h : Inv u) : rg 2 (bq_df u) := h.2.2.2.2.1.2.2.1
theorem r_p {u : BS} (h : Inv u) : rg 16 (bq_p u) := h.2.2.2.2.1.2.2.2.1
theorem r_x {u : BS} (h : Inv u) : rg 16 (bq_x u) := h.2.2.2.2.1.2.2.2.2.1
theorem r_t {u : BS} (h : Inv u) : rg 256 (bq_t u) := h.2.2.2.2.1.2.2.2.2.2.1
theorem r_ie {u : BS} (h : Inv u) : rg 2 (bq_ie u) := h.2.2.2.2.1.2.2.2.2.2.2.1
theorem r_q {u : BS} (h : Inv u) : rg 2 (bq_q u) := h.2.2.2.2.1.2.2.2.2.2.2.2.1
theorem r_idle {u : BS} (h : Inv u) : rg 2 (bq_idle u) := h.2.2.2.2.1.2.2.2.2.2.2.2.2
theorem r_depth {u : BS} (h : Inv u) : rg 13 (bq_depth u) := h.2.2.2.2.2.2.2.1
theorem r_index {u : BS} (h : Inv u) : rg 4096 (bq_index u) := h.2.2.2.2.2.2.2.2.1
theorem r_pc {u : BS} (h : Inv u) : rg 4096 (bq_pc u) := h.2.2.2.2.2.2.2.2.2.1
theorem r_random {u : BS} (h : Inv u) : rg 256 (bq_random u) := h.2.2.2.2.2.2.2.2.2.2
theorem r_mem {u : BS} (h : Inv u) {i : Nat} (hi : i < 2048) : rg 256 (bq_mem u i) := h.1 i hi
theorem r_keys {u : BS} (h : Inv u) {i : Nat} (hi : i < 16) : rg 2 (bq_keys u i) := h.2.1.1 i hi
theorem r_regs {u : BS} (h : Inv u) {i : Nat} (hi : i < 16) : rg 65536 (bq_regs u i) := h.2.2.2.2.1.1 i hi
theorem r_vars {u : BS} (h : Inv u) {i : Nat} (hi : i < 16) : rg 256 (bq_vars u i) := h.2.2.2.2.2.1 i hi
theorem r_stk {u : BS} (h : Inv u) {i : Nat} (hi : i < 12) : rg 4096 (bq_stk u i) := h.2.2.2.2.2.2.1 i hi
theorem rg_and (k : Nat) {m : Int32} (z : Int32) (hm : m.toBitVec.toNat = 2 ^ k - 1) : rg (2 ^ k) (z &&& m) := by
  obtain ⟨j, h1, h2⟩ := pk_andE z k hm
  exact ⟨j, h1, h2⟩
theorem rg_255 (z : Int32) : rg 256 (z &&& 255) := rg_and 8 z rfl
theorem rg_65535 (z : Int32) : rg 65536 (z &&& 65535) := rg_and 16 z rfl
theorem rg_15 (z : Int32) : rg 16 (z &&& 15) := rg_and 4 z rfl
theorem rg_4095 (z : Int32) : rg 4096 (z &&& 4095) := rg_and 12 z rfl
theorem rg_1 (z : Int32) : rg 2 (z &&& 1) := rg_and 1 z rfl
theorem rg_k {N : Nat} (n : Nat) (h : n < N) : rg N (nI n) := ⟨n, h, rfl⟩
theorem rg_w {N M : Nat} {z : Int32} (h : rg N z) (hN : N ≤ M) : rg M z := by
  obtain ⟨n, h1, h2⟩ := h
  exact ⟨n, by omega, h2⟩
theorem ix_and (k : Nat) {m : Int32} (z : Int32) (hk : k ≤ 30) (hm : m.toBitVec.toNat = 2 ^ k - 1) : (z &&& m).toNatClampNeg < 2 ^ k := by
  obtain ⟨j, h1, h2⟩ := pk_andE z k hm
  have : 2 ^ k ≤ 2 ^ 30 := Nat.pow_le_pow_right (by decide) hk
  rw [h2, nI_clamp (by omega)]; exact h1
theorem ix_15 {z : Int32} (h : rg 16 z) : (z &&& 15).toNatClampNeg = z.toNatClampNeg ∧ z.toNatClampNeg < 16 := by
  obtain ⟨n, h1, rfl⟩ := h
  rw [pk_andN (by omega) 4 rfl, nI_clamp (by omega), nI_clamp (by omega), Nat.mod_eq_of_lt h1]
  exact ⟨rfl, h1⟩
theorem in_16 {z : Int32} {N : Nat} (h : rg 16 z) (hN : 16 ≤ N) (hN2 : N < 2 ^ 31) : vp_in z N := by
  obtain ⟨n, h1, rfl⟩ := h
  exact vp_in_nI (by omega) hN2
