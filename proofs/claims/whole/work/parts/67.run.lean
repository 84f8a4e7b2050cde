def intS (m : MS) : MS := ms_intr (ms_s (ms_s (ms_s (ms_s (ms_s m (upd (mq_s m) 20 (((16 : Int32) * (mq_s m 19)) + (mq_s m 18)))) (upd (mq_s (ms_s m (upd (mq_s m) 20 (((16 : Int32) * (mq_s m 19)) + (mq_s m 18))))) 19 2)) (upd (mq_s (ms_s (ms_s m (upd (mq_s m) 20 (((16 : Int32) * (mq_s m 19)) + (mq_s m 18)))) (upd (mq_s (ms_s m (upd (mq_s m) 20 (((16 : Int32) * (mq_s m 19)) + (mq_s m 18))))) 19 2))) 18 1)) (upd (mq_s (ms_s (ms_s (ms_s m (upd (mq_s m) 20 (((16 : Int32) * (mq_s m 19)) + (mq_s m 18)))) (upd (mq_s (ms_s m (upd (mq_s m) 20 (((16 : Int32) * (mq_s m 19)) + (mq_s m 18))))) 19 2)) (upd (mq_s (ms_s (ms_s m (upd (mq_s m) 20 (((16 : Int32) * (mq_s m 19)) + (mq_s m 18)))) (upd (mq_s (ms_s m (upd (mq_s m) 20 (((16 : Int32) * (mq_s m 19)) + (mq_s m 18))))) 19 2))) 18 1))) 21 0)) (upd (mq_s (ms_s (ms_s (ms_s (ms_s m (upd (mq_s m) 20 (((16 : Int32) * (mq_s m 19)) + (mq_s m 18)))) (upd (mq_s (ms_s m (upd (mq_s m) 20 (((16 : Int32) * (mq_s m 19)) + (mq_s m 18))))) 19 2)) (upd (mq_s (ms_s (ms_s m (upd (mq_s m) 20 (((16 : Int32) * (mq_s m 19)) + (mq_s m 18)))) (upd (mq_s (ms_s m (upd (mq_s m) 20 (((16 : Int32) * (mq_s m 19)) + (mq_s m 18))))) 19 2))) 18 1)) (upd (mq_s (ms_s (ms_s (ms_s m (upd (mq_s m) 20 (((16 : Int32) * (mq_s m 19)) + (mq_s m 18)))) (upd (mq_s (ms_s m (upd (mq_s m) 20 (((16 : Int32) * (mq_s m 19)) + (mq_s m 18))))) 19 2)) (upd (mq_s (ms_s (ms_s m (upd (mq_s m) 20 (((16 : Int32) * (mq_s m 19)) + (mq_s m 18)))) (upd (mq_s (ms_s m (upd (mq_s m) 20 (((16 : Int32) * (mq_s m 19)) + (mq_s m 18))))) 19 2))) 18 1))) 21 0))) 23 0)) 1
def intM (m : MS) : Int32 × MS := if (mq_line m) = 62 then (if (mq_s m 21) = 1 then (if (mq_intr m) = 0 then (1, intS m) else (0, m)) else (0, m)) else if (mq_line m) = 63 then (if (mq_s m 21) = 1 then (if (mq_intr m) = 0 then (1, intS m) else (0, m)) else (0, m)) else (0, m)
theorem s_beh0 (m : MS) : f_X7_behindOne m = if (mq_on m) = 0 then (0, m) else if (mq_line m) < 64 then intM m else if 192 ≤ (mq_line m) then intM m else if (mq_fetched m) = 0 then (if (mq_place m) < 2 then intM m else f_X7_behindOne_L 9 m 0) else intM m := rfl
theorem o_beh0 (m : MS) (hL : ¬ (mq_line m) < 64 → ¬ 192 ≤ (mq_line m) → ok_X7_behindOne_L 9 m 0) : ok_X7_behindOne m := by
  unfold ok_X7_behindOne
  simp only [ite_self]
  by_cases h1 : mq_line m < 64
  · simp only [if_pos h1, ite_self]
  · by_cases h2 : 192 ≤ mq_line m
    · simp only [if_pos h2, ite_self]
    · simp only [hL h1 h2, ite_self]
theorem s_intS (th : Int32) (u : BS) : intS (aM th u) = aM th (f_X3_noteInterrupt (f_X4_interrupt u)) := by
  unfold intS
  simp only [m_x, m_p, M_t, M_x, M_p, M_ie, M_idle, M_intr]
  rfl
theorem i_intS {u : BS} (h : Inv u) : Inv (f_X3_noteInterrupt (f_X4_interrupt u)) := by
  have z2 : rg 2 0 := rg_0 (by decide)
  exact i_intr (i_idle (i_ie (i_p (i_x (i_t h (ar_mark (r_x h) (r_p h))) ⟨2, by decide, by decide⟩) ⟨1, by decide, by decide⟩) z2) z2) ⟨1, by decide, by decide⟩
theorem al_1 {u : BS} (e : bq_ie u = 1) : f_X4_allowsInterrupt u = 1 := if_pos e
theorem al_0 {u : BS} (e : ¬ bq_ie u = 1) : f_X4_allowsInterrupt u = 0 := if_neg e
theorem due_0 {u : BS} (hi : ¬ bq_intr u = 0) : f_X3_interruptIsDue u = 0 := by
  unfold f_X3_interruptIsDue
  simp only [if_neg hi, ite_self]
theorem due_n {u : BS} (h1 : ¬ bq_line u = 62) (h2 : ¬ bq_line u = 63) : f_X3_interruptIsDue u = 0 := by
  unfold f_X3_interruptIsDue
  simp only [if_neg h1, if_neg h2, ite_self]
theorem due_62 {u : BS} (ho : ¬ bq_on u = 0) (hi : bq_intr u = 0) (h1 : bq_line u = 62) : f_X3_interruptIsDue u = 1 := (if_neg ho).trans ((if_pos hi).trans (if_pos h1))
theorem due_63 {u : BS} (ho : ¬ bq_on u = 0) (hi : bq_intr u = 0) (h1 : ¬ bq_line u = 62) (h2 : bq_line u = 63) : f_X3_interruptIsDue u = 1 := (if_neg ho).trans ((if_pos hi).trans ((if_neg h1).trans (if_pos h2)))
/-- what the video does behind an instruction, when no row is due -/
def iR (th : Int32) (u : BS) (M : Int32 × MS) : Prop := (f_X3_interruptIsDue u = 0 ∧ M = (0, aM th u)) ∨ (f_X4_allowsInterrupt u = 0 ∧ M = (0, aM th u)) ∨ (f_X3_interruptIsDue u = 1 ∧ f_X4_allowsInterrupt u = 1 ∧ M = (1, aM th (f_X3_noteInterrupt (f_X4_interrupt u))))
theorem s_int {u : BS} (th : Int32) (ho : ¬ bq_on u = 0) : iR th u (intM (aM th u)) := by
  by_cases h1 : bq_line u = 62
  · by_cases hi : bq_intr u = 0
    · by_cases ha : bq_ie u = 1
      · refine Or.inr (Or.inr ⟨due_62 ho hi h1, al_1 ha, ?_⟩)
        rw [← s_intS]
        exact (if_pos h1).trans ((if_pos ha).trans (if_pos hi))
      · exact Or.inr (Or.inl ⟨al_0 ha, (if_pos h1).trans (if_neg ha)⟩)
    · refine Or.inl ⟨due_0 hi, (if_pos h1).trans ?_⟩
      rw [if_neg (show ¬ mq_intr (aM th u) = 0 from hi), ite_self]
  · by_cases h2 : bq_line u = 63
    · by_cases hi : bq_intr u = 0
      · by_cases ha : bq_ie u = 1
        · refine Or.inr (Or.inr ⟨due_63 ho hi h1 h2, al_1 ha, ?_⟩)
          rw [← s_intS]
          exact (if_neg h1).trans ((if_pos h2).trans ((if_pos ha).trans (if_pos hi)))
        · exact Or.inr (Or.inl ⟨al_0 ha, (if_neg h1).trans ((if_pos h2).trans (if_neg ha))⟩)
      · refine Or.inl ⟨due_0 hi, (if_neg h1).trans ((if_pos h2).trans ?_)⟩
        rw [if_neg (show ¬ mq_intr (aM th u) = 0 from hi), ite_self]
    · exact Or.inl ⟨due_n h1 h2, (if_neg h1).trans (if_neg h2)⟩
theorem row_ix {L a : Nat} (h1 : 64 ≤ L) (h2 : L < 192) (ha : a < 8) : ((8 : Int32) * (nI L - 64)) + nI a = nI (8 * (L - 64) + a) ∧ ((((nI L - 64) * 8) + nI a) &&& 1023) = nI (8 * (L - 64) + a) := by
  have e : nI L - 64 = nI (L - 64) := pk_sub h1
  have e1 : (8 : Int32) * nI (L - 64) = nI (8 * (L - 64)) := pk_mul 8 _
  have e2 : nI (L - 64) * (8 : Int32) = nI (8 * (L - 64)) := by rw [Int32.mul_comm]; exact e1
  rw [e, e1, e2, nI_add]
  exact ⟨rfl, id_and (N := 1024) 10 ⟨_, by omega, rfl⟩ (by decide) (by decide) rfl⟩
theorem s_row (th : Int32) (L : Nat) (hL : 64 ≤ L) (hL2 : L < 192) : ∀ (d fuel a : Nat) (u : BS), a + d = 8 → d < fuel → Inv u → bq_line u = nI L → ∃ V : BS, Inv V ∧ ok_X7_behindOne_L fuel (aM th u) (nI a) ∧ ok_X6_fetchRow_L fuel u (nI a) ∧ f_X7_behindOne_L fuel (aM th u) (nI a) = (8, aM th (bs_idle (bs_fetched V 1) 0)) ∧ f_X6_fetchRow_L fuel u (nI a) = bs_idle (f_X3_pass (bs_fetched V 1) 8) 0
  | 0, fuel + 1, a, u, ha, _, h, hu => by
    have e : (8 : Int32) ≤ nI a := (nI_leI (a := 8) (b := a) (by omega) (by omega)).mpr (by omega)
    refine ⟨u, h, ?_, ?_, ?_, ?_⟩
    · unfold ok_X7_behindOne_L; rw [if_pos e]; exact trivial
    · unfold ok_X6_fetchRow_L; rw [if_pos e]; exact trivial
    · refine (if_pos e).trans ?_
      show ((8 : Int32), ms_s (aM th (bs_fetched u 1)) (upd (mq_s (aM th (bs_fetched u 1))) 23 0)) = _
      rw [M_idle]
    · exact if_pos e
  | d + 1, fuel + 1, a, u, ha, hf, h, hu => by
    have e : ¬ (8 : Int32) ≤ nI a := fun q => absurd ((nI_leI (a := 8) (b := a) (by omega) (by omega)).mp q) (by omega)
    obtain ⟨x1, x2⟩ := row_ix (a := a) hL hL2 (by omega)
    have r0 : rg 16 0 := rg_0 (by decide)
    obtain ⟨V, v1, v2, v3, v4, v5⟩ := s_row th L hL hL2 d fuel (a + 1) (f_X4_grow (bs_screen u (upd (bq_screen u) (nI (8 * (L - 64) + a)).toNatClampNeg (f_X4_at u 0))) 0 1) (by omega) (by omega) (i_grow (i_screen h) _ _) hu
    have em : f_X7_grow (ms_shown (aM th u) (upd (mq_shown (aM th u)) ((((8 : Int32) * ((mq_line (aM th u)) - 64)) + nI a)).toNatClampNeg (f_X7_m (aM th u) 0))) 0 1 = aM th (f_X4_grow (bs_screen u (upd (bq_screen u) (nI (8 * (L - 64) + a)).toNatClampNeg (f_X4_at u 0))) 0 1) := by
      rw [s_m th r0, m_line, hu, x1, M_shown, m_shown, s_grow th r0]
    have ec : f_X3_keep (f_X4_takeByte u).2 (nI a) (f_X4_takeByte u).1 = f_X4_grow (bs_screen u (upd (bq_screen u) (nI (8 * (L - 64) + a)).toNatClampNeg (f_X4_at u 0))) 0 1 := by
      show bs_screen (f_X4_grow u 0 1) (upd (bq_screen u) (((((bq_line u) - 64) * 8) + nI a) &&& 1023).toNatClampNeg (f_X4_at u 0)) = _
      rw [hu, x2]; rfl
    refine ⟨V, v1, ?_, ?_, ?_, ?_⟩
    · unfold ok_X7_behindOne_L; rw [if_neg e]
      refine ⟨om r0, ?_, og r0, ?_⟩
      · rw [m_line, hu, x1]; exact vp_in_nI (by omega) (by omega)
      · show ok_X7_behindOne_L fuel (f_X7_grow (ms_shown (aM th u) (upd (mq_shown (aM th u)) ((((8 : Int32) * ((mq_line (aM th u)) - 64)) + nI a)).toNatClampNeg (f_X7_m (aM th u) 0))) 0 1) (nI a + Int32.ofInt 1)
        rw [em, nI_oi]; exact v2
    · unfold ok_X6_fetchRow_L; rw [if_neg e]
      refine ⟨⟨pk_andIn _ 10 rfl (by decide), trivial⟩, ?_⟩
      show ok_X6_fetchRow_L fuel (f_X3_keep (f_X4_takeByte u).2 (nI a) (f_X4_takeByte u).1) (nI a + Int32.ofInt 1)
      rw [ec, nI_oi]; exact v3
    · refine (if_neg e).trans ?_
      show f_X7_behindOne_L fuel (f_X7_grow (ms_shown (aM th u) (upd (mq_shown (aM th u)) ((((8 : Int32) * ((mq_line (aM th u)) - 64)) + nI a)).toNatClampNeg (f_X7_m (aM th u) 0))) 0 1) (nI a + Int32.ofInt 1) = _
      rw [em, nI_oi]; exact v4
    · refine (if_neg e).trans ?_
      show f_X6_fetchRow_L fuel (f_X3_keep (f_X4_takeByte u).2 (nI a) (f_X4_takeByte u).1) (nI a + Int32.ofInt 1) = _
      rw [ec, nI_oi]; exact v5
/-- the video behind an instruction: both sides -/
def VR (th : Int32) (u : BS) (B : Int32 × MS) : Prop := ∃ k : Nat, k ≤ 8 ∧ B.1 = nI k ∧ (f_X6_letVideoAct u).1 = nI k ∧ ok_X7_cycles B.2 B.1 ∧ f_X7_cycles B.2 B.1 = aM th (f_X6_letVideoAct u).2 ∧ Inv (f_X6_letVideoAct u).2 ∧ ok_X6_letVideoAct u
theorem s_vint {u : BS} {B : Int32 × MS} (th : Int32) (h : Inv u) (hr : f_X3_rowIsDue u = 0) (hi : iR th u B) : VR th u B := by
  rcases hi with ⟨d, e⟩ | ⟨d, e⟩ | ⟨d, d2, e⟩
  · have q : f_X6_letVideoAct u = (0, u) := (if_pos hr).trans (if_pos d)
    have c := s_cycles (n := 0) th h (by omega)
    rw [pa_0] at c
    refine ⟨0, by omega, by rw [e]; rfl, by rw [q]; rfl, by rw [e]; exact c.1, by rw [e, q]; exact c.2, by rw [q]; exact h, ?_⟩
    unfold ok_X6_letVideoAct; rw [if_pos hr, if_pos d]; exact trivial
  · by_cases d0 : f_X3_interruptIsDue u = 0
    · have q : f_X6_letVideoAct u = (0, u) := (if_pos hr).trans (if_pos d0)
      have c := s_cycles (n := 0) th h (by omega)
      rw [pa_0] at c
      refine ⟨0, by omega, by rw [e]; rfl, by rw [q]; rfl, by rw [e]; exact c.1, by rw [e, q]; exact c.2, by rw [q]; exact h, ?_⟩
      unfold ok_X6_letVideoAct; rw [if_pos hr, if_pos d0]; exact trivial
    · have q : f_X6_letVideoAct u = (0, u) := (if_pos hr).trans ((if_neg d0).trans (if_pos d))
      have c := s_cycles (n := 0) th h (by omega)
      rw [pa_0] at c
      refine ⟨0, by omega, by rw [e]; rfl, by rw [q]; rfl, by rw [e]; exact c.1, by rw [e, q]; exact c.2, by rw [q]; exact h, ?_⟩
      unfold ok_X6_letVideoAct; rw [if_pos hr, if_neg d0, if_pos d]; exact trivial
  · have d' : ¬ f_X3_interruptIsDue u = 0 := by rw [d]; decide
    have d2' : ¬ f_X4_allowsInterrupt u = 0 := by rw [d2]; decide
    have q : f_X6_letVideoAct u = (1, f_X3_pass (f_X3_noteInterrupt (f_X4_interrupt u)) 1) := (if_pos hr).trans ((if_neg d').trans (if_neg d2'))
    have hI := i_intS h
    have c := s_cycles (n := 1) th hI (by omega)
    rw [pa_s] at c
    refine ⟨1, by omega, by rw [e]; rfl, by rw [q]; rfl, by rw [e]; exact c.1, by rw [e, q]; exact c.2, by rw [q]; exact i_passN (n := 1) hI (by omega), ?_⟩
    unfold ok_X6_letVideoAct; rw [if_pos hr, if_neg d', if_neg d2']; exact trivial
theorem s_vid {u : BS} (th : Int32) (h : Inv u) : ok_X7_behindOne (aM th u) ∧ VR th u (f_X7_behindOne (aM th u)) := by
  obtain ⟨L, hL, eL⟩ := r_line h
  have c1 : bq_line u < 64 ↔ L < 64 := by rw [eL]; exact nI_ltI (a := L) (b := 64) (by omega) (by omega)
  have c2 : 192 ≤ bq_line u ↔ 192 ≤ L := by rw [eL]; exact nI_leI (a := 192) (b := L) (by omega) (by omega)
  have hrow : 64 ≤ L → L < 192 → _ := fun a b => s_row th L a b 8 9 0 u (by omega) (by omega) h eL
  refine ⟨o_beh0 _ ?_, ?_⟩
  · intro a b
    obtain ⟨V, -, v2, -⟩ := hrow (by rw [m_line, c1] at a; omega) (by rw [m_line, c2] at b; omega)
    exact v2
  rw [s_beh0, m_on, m_line, m_fetched, m_place]
  by_cases ho : bq_on u = 0
  · rw [if_pos ho]
    refine s_vint th h (if_pos ho) (Or.inl ⟨if_pos ho, rfl⟩)
  rw [if_neg ho]
  have hI := s_int th ho
  have rd : f_X3_rowIsDue u = if bq_fetched u = 0 then (if bq_place u < 2 then 0 else if f_X3_isShownLine u = 0 then 0 else 1) else 0 := if_neg ho
  by_cases h1 : bq_line u < 64
  · rw [if_pos h1]
    have s0 : f_X3_isShownLine u = 0 := if_pos h1
    exact s_vint th h (by rw [rd, if_pos s0, ite_self, ite_self]) hI
  rw [if_neg h1]
  by_cases h2 : 192 ≤ bq_line u
  · rw [if_pos h2]
    have s0 : f_X3_isShownLine u = 0 := (if_neg h1).trans (if_pos h2)
    exact s_vint th h (by rw [rd, if_pos s0, ite_self, ite_self]) hI
  rw [if_neg h2]
  by_cases h3 : bq_fetched u = 0
  · rw [if_pos h3]
    by_cases h4 : bq_place u < 2
    · rw [if_pos h4]
      exact s_vint th h (by rw [rd, if_pos h3, if_pos h4]) hI
    · rw [if_neg h4]
      have s1 : f_X3_isShownLine u = 1 := (if_neg h1).trans (if_neg h2)
      have hr : f_X3_rowIsDue u = 1 := by rw [rd, if_pos h3, if_neg h4, s1]; rfl
      have hr' : ¬ f_X3_rowIsDue u = 0 := by rw [hr]; decide
      obtain ⟨V, v1, v2, v3, v4, v5⟩ := hrow (by rw [c1] at h1; omega) (by rw [c2] at h2; omega)
      have q : f_X6_letVideoAct u = (8, f_X6_fetchRow u) := if_neg hr'
      have hF : Inv (bs_fetched V 1) := i_fetched v1 ⟨1, by decide, by decide⟩
      have hI2 : Inv (bs_idle (bs_fetched V 1) 0) := i_idle hF (rg_0 (by decide))
      have c := s_cycles (n := 8) th hI2 (by omega)
      rw [pa_s, pass_idle hF (by omega)] at c
      replace v4 : f_X7_behindOne_L 9 (aM th u) 0 = (8, aM th (bs_idle (bs_fetched V 1) 0)) := v4
      have v5' : f_X6_fetchRow u = bs_idle (f_X3_pass (bs_fetched V 1) (nI (7 + 1))) 0 := v5
      refine ⟨8, by omega, by rw [v4]; rfl, by rw [q]; rfl, by rw [v4]; exact c.1, by rw [v4, q, v5']; exact c.2, by rw [q, v5']; exact i_idle (i_passN hF (by omega)) (rg_0 (by decide)), ?_⟩
      unfold ok_X6_letVideoAct; rw [if_neg hr']; exact ⟨v3, trivial⟩
  · rw [if_neg h3]
    exact s_vint th h (by rw [rd, if_neg h3]) hI
theorem s_runL (th : Int32) (n : Nat) (hn : n ≤ 4000) : ∀ (fuel : Nat) (u : BS) (ov tu : Nat), Inv u → tu ≤ ov → ov < n + 20 → n - tu < fuel → ok_X6_run_L fuel u (nI n) (nI ov) (nI tu) ∧ ok_X7_run_L fuel (aM th u) (nI n) (nI ov) ∧ f_X7_run_L fuel (aM th u) (nI n) (nI ov) = ((f_X6_run_L fuel u (nI n) (nI ov) (nI tu)).2.1, aM th (f_X6_run_L fuel u (nI n) (nI ov) (nI tu)).2.2) ∧ (f_X6_run_L fuel u (nI n) (nI ov) (nI tu)).1 = none ∧ Inv (f_X6_run_L fuel u (nI n) (nI ov) (nI tu)).2.2
  | 0, _, _, _, _, _, _, hf => absurd hf (by omega)
  | fuel + 1, u, ov, tu, h, h1, h2, hf => by
    by_cases e : n ≤ ov
    · have e1 : nI n ≤ nI ov := nI_le e (by omega)
      have q : f_X6_run_L (fuel + 1) u (nI n) (nI ov) (nI tu) = (none, nI ov, u) := by
        by_cases e2 : nI n ≤ nI tu
        · exact if_pos e2
        · exact (if_neg e2).trans (if_pos e1)
      rw [q]
      refine ⟨?_, ?_, if_pos e1, rfl, h⟩
      · unfold ok_X6_run_L
        rw [if_pos e1, ite_self]; exact trivial
      · unfold ok_X7_run_L
        rw [if_pos e1]; exact trivial
    · have e1 : ¬ nI n ≤ nI ov := nI_ge (by omega) (by omega)
      have e2 : ¬ nI n ≤ nI tu := nI_ge (by omega) (by omega)
      obtain ⟨a1, a2, a3⟩ := s_act th h
      obtain ⟨j, hj1, hj2, hj⟩ : ∃ j : Nat, 1 ≤ j ∧ j ≤ 3 ∧ (f_X4_act u).1 = nI j := by
        rcases v_act u with q | q | q
        · exact ⟨1, by omega, by omega, q⟩
        · exact ⟨2, by omega, by omega, q⟩
        · exact ⟨3, by omega, by omega, q⟩
      obtain ⟨c1, c2⟩ := s_cycles (n := j) th a3 (by omega)
      obtain ⟨i, rfl⟩ : ∃ i, j = i + 1 := ⟨j - 1, by omega⟩
      rw [pa_s] at c2
      have hP := i_passN (n := i + 1) a3 (by omega)
      obtain ⟨b1, k, hk, b2, b3, b4, b5, b6, b7⟩ := s_vid th hP
      have et : nI ov + (nI (i + 1) + nI k) = nI (ov + (i + 1 + k)) := by rw [nI_add, nI_add]
      obtain ⟨y1, y2, y3, y4, y5⟩ := s_runL th n hn fuel (f_X6_letVideoAct (f_X3_pass (f_X4_act u).2 (nI (i + 1)))).2 (ov + (i + 1 + k)) (tu + 1) b6 (by omega) (by omega) (by omega)
      have q6 : f_X6_run_L (fuel + 1) u (nI n) (nI ov) (nI tu) = f_X6_run_L fuel (f_X6_letVideoAct (f_X3_pass (f_X4_act u).2 (nI (i + 1)))).2 (nI n) (nI (ov + (i + 1 + k))) (nI (tu + 1)) := by
        refine (if_neg e2).trans ((if_neg e1).trans ?_)
        show f_X6_run_L fuel (f_X6_letVideoAct (f_X3_pass (f_X4_act u).2 (f_X4_act u).1)).2 (nI n) (nI ov + ((f_X4_act u).1 + (f_X6_letVideoAct (f_X3_pass (f_X4_act u).2 (f_X4_act u).1)).1)) (nI tu + Int32.ofInt 1) = _
        rw [hj, b3, et, nI_oi]
      rw [q6]
      refine ⟨?_, ?_, ?_, y4, y5⟩
      · unfold ok_X6_run_L
        rw [if_neg e2, if_neg e1]
        refine ⟨o_act, ?_⟩
        show ok_X6_letVideoAct (f_X3_pass (f_X4_act u).2 (f_X4_act u).1) ∧ ok_X6_run_L fuel (f_X6_letVideoAct (f_X3_pass (f_X4_act u).2 (f_X4_act u).1)).2 (nI n) (nI ov + ((f_X4_act u).1 + (f_X6_letVideoAct (f_X3_pass (f_X4_act u).2 (f_X4_act u).1)).1)) (nI tu + Int32.ofInt 1)
        rw [hj, b3, et, nI_oi]; exact ⟨b7, y1⟩
      · unfold ok_X7_run_L
        rw [if_neg e1]
        refine ⟨a1, ?_⟩
        rw [a2]
        show ok_X7_cycles (aM th (f_X4_act u).2) (f_X4_act u).1 ∧ ok_X7_behindOne (f_X7_cycles (aM th (f_X4_act u).2) (f_X4_act u).1) ∧ ok_X7_cycles (f_X7_behindOne (f_X7_cycles (aM th (f_X4_act u).2) (f_X4_act u).1)).2 (f_X7_behindOne (f_X7_cycles (aM th (f_X4_act u).2) (f_X4_act u).1)).1 ∧ ok_X7_run_L fuel (f_X7_cycles (f_X7_behindOne (f_X7_cycles (aM th (f_X4_act u).2) (f_X4_act u).1)).2 (f_X7_behindOne (f_X7_cycles (aM th (f_X4_act u).2) (f_X4_act u).1)).1) (nI n) (nI ov + ((f_X4_act u).1 + (f_X7_behindOne (f_X7_cycles (aM th (f_X4_act u).2) (f_X4_act u).1)).1))
        rw [hj, c2, b5, b2, et]
        rw [b2] at b4
        exact ⟨c1, b1, b4, y2⟩
      · rw [← y3]
        refine (if_neg e1).trans ?_
        rw [a2]
        show f_X7_run_L fuel (f_X7_cycles (f_X7_behindOne (f_X7_cycles (aM th (f_X4_act u).2) (f_X4_act u).1)).2 (f_X7_behindOne (f_X7_cycles (aM th (f_X4_act u).2) (f_X4_act u).1)).1) (nI n) (nI ov + ((f_X4_act u).1 + (f_X7_behindOne (f_X7_cycles (aM th (f_X4_act u).2) (f_X4_act u).1)).1)) = _
        rw [hj, c2, b5, b2, et]
