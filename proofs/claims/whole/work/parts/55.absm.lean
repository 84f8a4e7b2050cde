/-! the model's value out of the board's: what each field and place of the reference holds when the class holds u -/
def aS (u : BS) : Nat → Int32 := fun i => if i = 16 then bq_d u else if i = 17 then bq_df u else if i = 18 then bq_p u else if i = 19 then bq_x u else if i = 20 then bq_t u else if i = 21 then bq_ie u else if i = 22 then bq_q u else if i = 23 then bq_idle u else bq_regs u i
def aV (u : BS) : Nat → Int32 := fun i => if i = 16 then bq_index u else if i = 17 then bq_pc u else if i = 18 then bq_depth u else if i = 19 then bq_delay u else if i = 20 then bq_tone u else if i = 21 then bq_random u else bq_vars u i
def aM (th : Int32) (u : BS) : MS := (th, (bq_mem u, aS u, aV u, bq_stk u, bq_keys u, bq_screen u), (bq_on u, bq_line u, bq_place u, bq_frames u, bq_fetched u, bq_intr u, bq_asked u))
/-- a number of 0 .. N-1 -/
def rg (N : Nat) (z : Int32) : Prop := ∃ n : Nat, n < N ∧ z = nI n
def iMem (u : BS) : Prop := ∀ i, i < 2048 → rg 256 (bq_mem u i)
def iKey (u : BS) : Prop := (∀ i, i < 16 → rg 2 (bq_keys u i)) ∧ rg 16 (bq_asked u)
def iTim (u : BS) : Prop := rg 256 (bq_delay u) ∧ rg 256 (bq_tone u)
def iPic (u : BS) : Prop := rg 2 (bq_on u) ∧ rg 262 (bq_line u) ∧ rg 14 (bq_place u) ∧ rg 2 (bq_fetched u) ∧ rg 2 (bq_intr u)
def iCpu (u : BS) : Prop := (∀ i, i < 16 → rg 65536 (bq_regs u i)) ∧ rg 256 (bq_d u) ∧ rg 2 (bq_df u) ∧ rg 16 (bq_p u) ∧ rg 16 (bq_x u) ∧ rg 256 (bq_t u) ∧ rg 2 (bq_ie u) ∧ rg 2 (bq_q u) ∧ rg 2 (bq_idle u)
def iLan (u : BS) : Prop := (∀ i, i < 16 → rg 256 (bq_vars u i)) ∧ (∀ i, i < 12 → rg 4096 (bq_stk u i)) ∧ rg 13 (bq_depth u) ∧ rg 4096 (bq_index u) ∧ rg 4096 (bq_pc u) ∧ rg 256 (bq_random u)
def Inv (u : BS) : Prop := iMem u ∧ iKey u ∧ iTim u ∧ iPic u ∧ iCpu u ∧ iLan u
/-- a new board's value -/
def bu0 : BS := ((fun _ => 0), ((fun _ => 0), 0), (0, 0), ((fun _ => 0), 0, 0, 0, 0, 0, 0), ((fun _ => 0), 0, 0, 0, 0, 0, 1, 0, 0), ((fun _ => 0), (fun _ => 0), 0, 0, 512, 0))
theorem rg_0 {N : Nat} (h : 0 < N) : rg N 0 := ⟨0, h, nI_0.symm⟩
theorem inv_0 : Inv bu0 := by
  refine ⟨fun i _ => rg_0 (by decide), ⟨fun i _ => rg_0 (by decide), rg_0 (by decide)⟩, ⟨rg_0 (by decide), rg_0 (by decide)⟩, ⟨rg_0 (by decide), rg_0 (by decide), rg_0 (by decide), rg_0 (by decide), rg_0 (by decide)⟩, ⟨fun i _ => rg_0 (by decide), rg_0 (by decide), rg_0 (by decide), rg_0 (by decide), rg_0 (by decide), rg_0 (by decide), ⟨1, by decide, by decide⟩, rg_0 (by decide), rg_0 (by decide)⟩, fun i _ => rg_0 (by decide), fun i _ => rg_0 (by decide), rg_0 (by decide), rg_0 (by decide), ⟨512, by decide, by decide⟩, rg_0 (by decide)⟩
