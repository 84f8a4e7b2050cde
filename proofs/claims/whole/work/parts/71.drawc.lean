theorem Z_flip (u : BS) (a k : Int32) : f_X1_flip u a k = (if (((f_X2_read u a)) &&& k) = 0 then (0, (f_X2_write u a (((f_X2_read u a)) ^^^ k))) else (1, (f_X2_write u a (((f_X2_read u a)) ^^^ k)))) := rfl
theorem Z_drawB (u : BS) (a x b : Int32) : f_X1_drawByte u a x b = (if 7 ≤ (x / 8) then ((vp_nar .boolean ((f_X1_flip u ((((1792 : Int32) + (a * 8)) + (x / 8))) (b >>> (((x - x / 8 * 8)) &&& 31))).1)), (f_X1_flip u ((((1792 : Int32) + (a * 8)) + (x / 8))) (b >>> (((x - x / 8 * 8)) &&& 31))).2) else (if (f_X1_flip (f_X1_flip u ((((1792 : Int32) + (a * 8)) + (x / 8))) (b >>> (((x - x / 8 * 8)) &&& 31))).2 (((((1792 : Int32) + (a * 8)) + (x / 8))) + 1) ((b <<< (((8 : Int32) - ((x - x / 8 * 8))) &&& 31)) &&& 255)).1 = 0 then ((vp_nar .boolean ((f_X1_flip u ((((1792 : Int32) + (a * 8)) + (x / 8))) (b >>> (((x - x / 8 * 8)) &&& 31))).1)), (f_X1_flip (f_X1_flip u ((((1792 : Int32) + (a * 8)) + (x / 8))) (b >>> (((x - x / 8 * 8)) &&& 31))).2 (((((1792 : Int32) + (a * 8)) + (x / 8))) + 1) ((b <<< (((8 : Int32) - ((x - x / 8 * 8))) &&& 31)) &&& 255)).2) else (1, (f_X1_flip (f_X1_flip u ((((1792 : Int32) + (a * 8)) + (x / 8))) (b >>> (((x - x / 8 * 8)) &&& 31))).2 (((((1792 : Int32) + (a * 8)) + (x / 8))) + 1) ((b <<< (((8 : Int32) - ((x - x / 8 * 8))) &&& 31)) &&& 255)).2))) := rfl
theorem c_flip {w : BS} {A p k : Nat} (hA : A < 2048) (e : bq_mem w A = nI p) (hp : p < 256) (hk : k < 256) : f_X1_flip w (nI A) (nI k) = ((if p &&& k = 0 then 0 else 1), bs_mem w (upd (bq_mem w) A (nI (p ^^^ k)))) := by
  have e1 : f_X2_read w (nI A) = nI p := by
    unfold f_X2_read
    rw [id_and (N := 2048) 11 ⟨A, hA, rfl⟩ (by decide) (by decide) rfl, nI_clamp (by omega), e]
  have hx : p ^^^ k < 2 ^ 8 := Nat.xor_lt_two_pow hp hk
  have e2 : f_X2_write w (nI A) (nI p ^^^ nI k) = bs_mem w (upd (bq_mem w) A (nI (p ^^^ k))) := by
    unfold f_X2_write
    rw [id_and (N := 2048) 11 ⟨A, hA, rfl⟩ (by decide) (by decide) rfl, nI_clamp (by omega), ar_xor, id_255 ⟨_, hx, rfl⟩]
  have ha : p &&& k < 2 ^ 8 := Nat.and_lt_two_pow _ hk
  rw [Z_flip, e1, e2, ar_and]
  by_cases q : p &&& k = 0
  · rw [if_pos q, q]; exact if_pos nI_0
  · rw [if_neg q]; exact if_neg (nI_ne0 (by omega) (by omega))
def dM2 (X b : Nat) : Nat := if X / 8 < 7 then b * 2 ^ (8 - X % 8) % 256 else 0
theorem c_draw {w : BS} {X R b p1 p2 : Nat} (h : Inv w) (hX : X < 64) (hR : R < 32) (hb : b < 256) (e1 : bq_mem w (1792 + 8 * R + X / 8) = nI p1) (h1 : p1 < 256) (e2 : bq_mem w (1792 + 8 * R + X / 8 + 1) = nI p2) (h2 : X / 8 < 7 → p2 < 256) :
    ∃ t : Int32, f_X1_drawByte w (nI R) (nI X) (nI b) = (t, rs w (1792 + 8 * R + X / 8) (nI (p1 ^^^ (b / 2 ^ (X % 8)))) (nI (p2 ^^^ dM2 X b))) ∧ (t = 0 ↔ p1 &&& (b / 2 ^ (X % 8)) = 0 ∧ p2 &&& dM2 X b = 0) ∧ Inv (rs w (1792 + 8 * R + X / 8) (nI (p1 ^^^ (b / 2 ^ (X % 8)))) (nI (p2 ^^^ dM2 X b))) := by
  have d1 : nI X / 8 = nI (X / 8) := pk_div (a := X) (d := 8) (by omega) (by omega) (by omega)
  have d2 : nI X - nI X / 8 * 8 = nI (X % 8) := pk_rem (a := X) (d := 8) (by omega) (by omega) (by omega)
  have hA : 1792 + 8 * R + X / 8 < 2048 := by omega
  have d3 : (((1792 : Int32) + (nI R * 8)) + (nI X / 8)) = nI (1792 + 8 * R + X / 8) := by
    rw [d1, Int32.mul_comm, show (8 : Int32) * nI R = nI (8 * R) from pk_mul 8 _, show (1792 : Int32) + nI (8 * R) = nI (1792 + 8 * R) from nI_add 1792 _, nI_add]
  have hM1 : b / 2 ^ (X % 8) < 256 := Nat.lt_of_le_of_lt (Nat.div_le_self _ _) hb
  have s1 := sh1I ⟨b, hb⟩ ⟨X % 8, by omega⟩
  have s2 := sh2I ⟨b, hb⟩ ⟨X % 8, by omega⟩
  simp only at s1 s2
  have f1 := c_flip (w := w) hA e1 h1 hM1
  have hx1 : p1 ^^^ (b / 2 ^ (X % 8)) < 2 ^ 8 := Nat.xor_lt_two_pow h1 hM1
  have vn : ∀ c : Prop, [Decidable c] → vp_nar .boolean (if c then (0 : Int32) else 1) = if c then 0 else 1 := by
    intro c _
    by_cases q : c
    · rw [if_pos q]; rfl
    · rw [if_neg q]; rfl
  rw [Z_drawB, d3, d2, s1, f1, d1, s2]
  by_cases q : X / 8 < 7
  · have q' : ¬ (7 : Int32) ≤ nI (X / 8) := fun z => absurd ((nI_leI (a := 7) (b := X / 8) (by omega) (by omega)).mp z) (by omega)
    have hp2 := h2 q
    have eM : dM2 X b = b * 2 ^ (8 - X % 8) % 256 := if_pos q
    have hM2 : dM2 X b < 256 := by rw [eM]; exact Nat.mod_lt _ (by decide)
    rw [if_neg q', ← eM]
    have e2' : bq_mem (bs_mem w (upd (bq_mem w) (1792 + 8 * R + X / 8) (nI (p1 ^^^ (b / 2 ^ (X % 8)))))) (1792 + 8 * R + X / 8 + 1) = nI p2 := by
      show upd (bq_mem w) (1792 + 8 * R + X / 8) (nI (p1 ^^^ (b / 2 ^ (X % 8)))) (1792 + 8 * R + X / 8 + 1) = nI p2
      rw [pk_un (by omega), e2]
    have f2 := c_flip (w := bs_mem w (upd (bq_mem w) (1792 + 8 * R + X / 8) (nI (p1 ^^^ (b / 2 ^ (X % 8)))))) (A := 1792 + 8 * R + X / 8 + 1) (by omega) e2' hp2 hM2
    have hx2 : p2 ^^^ dM2 X b < 2 ^ 8 := Nat.xor_lt_two_pow hp2 hM2
    have hI : Inv (rs w (1792 + 8 * R + X / 8) (nI (p1 ^^^ (b / 2 ^ (X % 8)))) (nI (p2 ^^^ dM2 X b))) := i_mem (u := bs_mem w (upd (bq_mem w) (1792 + 8 * R + X / 8) (nI (p1 ^^^ (b / 2 ^ (X % 8)))))) (i_mem h ⟨_, hx1, rfl⟩) ⟨_, hx2, rfl⟩
    have n1 : nI (1792 + 8 * R + X / 8) + 1 = nI (1792 + 8 * R + X / 8 + 1) := nI_1 _
    simp only [n1, f2, vn]
    by_cases g1 : p1 &&& (b / 2 ^ (X % 8)) = 0
    · by_cases g2 : p2 &&& dM2 X b = 0
      · refine ⟨0, ?_, ⟨fun _ => ⟨g1, g2⟩, fun _ => rfl⟩, hI⟩
        rw [if_pos g1, if_pos g2]; rfl
      · refine ⟨1, ?_, ⟨fun z => absurd z (by decide), fun z => absurd z.2 g2⟩, hI⟩
        rw [if_neg g2]; rfl
    · by_cases g2 : p2 &&& dM2 X b = 0
      · refine ⟨1, ?_, ⟨fun z => absurd z (by decide), fun z => absurd z.1 g1⟩, hI⟩
        rw [if_neg g1, if_pos g2]; rfl
      · refine ⟨1, ?_, ⟨fun z => absurd z (by decide), fun z => absurd z.2 g2⟩, hI⟩
        rw [if_neg g2]; rfl
  · have q' : (7 : Int32) ≤ nI (X / 8) := (nI_leI (a := 7) (b := X / 8) (by omega) (by omega)).mpr (by omega)
    have eM : dM2 X b = 0 := if_neg q
    rw [if_pos q', eM, Nat.xor_zero, ← e2, rs_h]
    have hI : Inv (bs_mem w (upd (bq_mem w) (1792 + 8 * R + X / 8) (nI (p1 ^^^ (b / 2 ^ (X % 8)))))) := i_mem h ⟨_, hx1, rfl⟩
    refine ⟨_, rfl, ?_, hI⟩
    show vp_nar .boolean (if p1 &&& (b / 2 ^ (X % 8)) = 0 then (0 : Int32) else 1) = 0 ↔ _
    rw [vn]
    by_cases g1 : p1 &&& (b / 2 ^ (X % 8)) = 0
    · rw [if_pos g1]; exact ⟨fun _ => ⟨g1, Nat.and_zero _⟩, fun _ => rfl⟩
    · rw [if_neg g1]; exact ⟨fun z => absurd z (by decide), fun z => absurd z.1 g1⟩
def dJ (X : Nat) : Nat := if X ≤ 56 then 8 else 64 - X
theorem dJ_p {X : Nat} (hX : X < 64) : dJ X ≤ 8 ∧ X + dJ X ≤ 64 ∧ (dJ X = 8 ∨ X + dJ X = 64) := by
  unfold dJ; split <;> omega
theorem dJ_m {X b : Nat} (hX : X < 64) (hb : b < 256) : mk1 (X % 8) b (dJ X) = b / 2 ^ (X % 8) ∧ mk2 (X % 8) b (dJ X) = dM2 X b := by
  obtain ⟨k1, k2, k3, k4⟩ := fk3 ⟨X % 8, by omega⟩ ⟨b, hb⟩
  simp only at k1 k2 k3 k4
  by_cases q : X ≤ 56
  · have eJ : dJ X = 8 := if_pos q
    rw [eJ]
    refine ⟨k1, ?_⟩
    by_cases q2 : X / 8 < 7
    · rw [k3]; exact (if_pos q2).symm
    · have e0 : X % 8 = 0 := by omega
      rw [e0] at k4 ⊢
      rw [show dM2 X b = 0 from if_neg q2]; exact k4
  · have eJ : dJ X = 8 - X % 8 := (if_neg q).trans (by omega)
    rw [eJ]
    exact ⟨k2, by rw [k4]; exact (if_neg (by omega)).symm⟩
theorem s_fin {w : BS} {h : Nat} {c6 : Int32} (th : Int32) (hh : h < 256) (hc : c6 = 0 ∧ h = 0 ∨ c6 = 1 ∧ h ≠ 0) : (if nI h = 0 then ms_v (aM th w) (upd (mq_v (aM th w)) 15 0) else ms_v (aM th w) (upd (mq_v (aM th w)) 15 1)) = aM th (f_X1_putVariable w 15 c6) := by
  rcases hc with ⟨rfl, rfl⟩ | ⟨rfl, q⟩
  · rw [if_pos nI_0, s_put15 th r0_256]
  · rw [if_neg (nI_ne0 (by omega) (by omega)), s_put15 th r1_256]
theorem c_fin {w : BS} {c6 : Int32} (z : Int32) (hc : c6 = 0 ∨ c6 = 1) : (if c6 = 0 then f_X1_putVariable (bs_pc w z) 15 0 else f_X1_putVariable (bs_pc w z) 15 1) = bs_pc (f_X1_putVariable w 15 c6) z := by
  rcases hc with rfl | rfl
  · rw [if_pos rfl]; rfl
  · rw [if_neg (by decide)]; rfl
theorem s_drawL (th z a1 a2 b1 b2 : Int32) (X Y n : Nat) (hX : X < 64) (hY : Y < 32) (hn : n < 16) (hz : rg 4096 z) : ∀ (d f1 f2 r h : Nat) (c6 : Int32) (w : BS), r + d = n → d < f1 → 10 * d < f2 → Inv w → h < 256 → (c6 = 0 ∧ h = 0 ∨ c6 = 1 ∧ h ≠ 0) → ∃ V : BS, bq_pc V = bq_pc w ∧ Inv V ∧ f_X7_draw_L f2 28 (aM th w) a1 a2 (nI n) (nI X) (nI Y) (nI h) (nI r) 0 0 = aM th V ∧ f_X1_draw_L f1 (bs_pc w z) b1 b2 (nI n) (nI X) (nI Y) c6 (nI r) = bs_pc V z ∧ ok_X7_draw_L f2 28 (aM th w) a1 a2 (nI n) (nI X) (nI Y) (nI h) (nI r) 0 0 ∧ ok_X1_draw_L f1 (bs_pc w z) b1 b2 (nI n) (nI X) (nI Y) c6 (nI r)
  | 0, f1 + 1, f2 + 1, r, h, c6, w, hr, _, _, hI, hh, hc => by
    have e : nI n ≤ nI r := nI_le (by omega) (by omega)
    have hc1 : c6 = 0 ∨ c6 = 1 := by rcases hc with q | q; exact Or.inl q.1; exact Or.inr q.1
    refine ⟨f_X1_putVariable w 15 c6, rfl, i_putV hI _ _, ?_, ?_, ?_, ?_⟩
    · exact (if_pos rfl).trans ((if_pos e).trans (s_fin th hh hc))
    · exact (if_pos e).trans (c_fin z hc1)
    · unfold ok_X7_draw_L; rw [if_pos rfl, if_pos e, ite_self]; exact trivial
    · unfold ok_X1_draw_L; rw [if_pos e, ite_self]; exact trivial
  | d + 1, f1 + 1, f2 + 1, r, h, c6, w, hr, hf1, hf2, hI, hh, hc => by
    have e : ¬ nI n ≤ nI r := nI_ge (by omega) (by omega)
    have hc1 : c6 = 0 ∨ c6 = 1 := by rcases hc with q | q; exact Or.inl q.1; exact Or.inr q.1
    by_cases g : 32 ≤ Y + r
    · have e2 : 32 ≤ nI Y + nI r := by rw [nI_add]; exact (nI_leI (a := 32) (b := Y + r) (by omega) (by omega)).mpr g
      refine ⟨f_X1_putVariable w 15 c6, rfl, i_putV hI _ _, ?_, ?_, ?_, ?_⟩
      · exact (if_pos rfl).trans ((if_neg e).trans ((if_pos e2).trans (s_fin th hh hc)))
      · exact (if_neg e).trans ((if_pos e2).trans (c_fin z hc1))
      · unfold ok_X7_draw_L; rw [if_pos rfl, if_neg e, if_pos e2, ite_self]; exact trivial
      · unfold ok_X1_draw_L; rw [if_neg e, if_pos e2, ite_self]; exact trivial
    · have e2 : ¬ 32 ≤ nI Y + nI r := by rw [nI_add]; exact fun q => absurd ((nI_leI (a := 32) (b := Y + r) (by omega) (by omega)).mp q) g
      obtain ⟨b, hb, eb⟩ := r_read hI (bq_index w + nI r)
      obtain ⟨p1, h1, e1⟩ := r_mem hI (i := 1792 + 8 * (Y + r) + X / 8) (by omega)
      obtain ⟨p2, e3, h2⟩ : ∃ p2 : Nat, bq_mem w (1792 + 8 * (Y + r) + X / 8 + 1) = nI p2 ∧ (X / 8 < 7 → p2 < 256) := by
        by_cases q : X / 8 < 7
        · obtain ⟨p2, h2, e3⟩ := r_mem hI (i := 1792 + 8 * (Y + r) + X / 8 + 1) (by omega)
          exact ⟨p2, e3, fun _ => h2⟩
        · exact ⟨(bq_mem w (1792 + 8 * (Y + r) + X / 8 + 1)).toBitVec.toNat, Int32.toBitVec_inj.mp (by rw [ar_bv, BitVec.ofNat_toNat, BitVec.setWidth_eq]), fun z => absurd z q⟩
      obtain ⟨j1, j2, j3⟩ := dJ_p hX
      obtain ⟨m1, m2⟩ := dJ_m hX hb
      obtain ⟨t, t1, t2, -⟩ := c_draw (w := bs_pc w z) (R := Y + r) (i_pc hI hz) hX (by omega) hb e1 h1 e3 h2
      obtain ⟨-, -, -, t3⟩ := c_draw (w := w) (R := Y + r) hI hX (by omega) hb e1 h1 e3 h2
      have hM1 : b / 2 ^ (X % 8) < 2 ^ 8 := Nat.lt_of_le_of_lt (Nat.div_le_self _ _) hb
      have hM2 : dM2 X b < 2 ^ 8 := by
        unfold dM2; split
        · exact Nat.mod_lt _ (by decide)
        · decide
      have eS0 : dS w (1792 + 8 * (Y + r) + X / 8) p1 p2 (X % 8) b 0 = w := by
        show rs w (1792 + 8 * (Y + r) + X / 8) (nI (p1 ^^^ 0)) (nI (p2 ^^^ 0)) = w
        rw [Nat.xor_zero, Nat.xor_zero, ← e1, ← e3, rs_0]
      have eH0 : dH h p1 p2 (X % 8) b 0 = h := by
        show h ||| ((p1 &&& 0) ||| (p2 &&& 0)) = h
        rw [Nat.and_zero, Nat.and_zero, Nat.or_zero, Nat.or_zero]
      have eSJ : dS w (1792 + 8 * (Y + r) + X / 8) p1 p2 (X % 8) b (dJ X) = rs w (1792 + 8 * (Y + r) + X / 8) (nI (p1 ^^^ (b / 2 ^ (X % 8)))) (nI (p2 ^^^ dM2 X b)) := by
        unfold dS; rw [m1, m2]
      have eHJ : dH h p1 p2 (X % 8) b (dJ X) = h ||| ((p1 &&& (b / 2 ^ (X % 8))) ||| (p2 &&& dM2 X b)) := by
        unfold dH; rw [m1, m2]
      have hh' : h ||| ((p1 &&& (b / 2 ^ (X % 8))) ||| (p2 &&& dM2 X b)) < 256 := Nat.or_lt_two_pow (n := 8) hh (Nat.or_lt_two_pow (Nat.and_lt_two_pow _ hM1) (Nat.and_lt_two_pow _ hM2))
      obtain ⟨c7, hc7, hsel⟩ : ∃ c7 : Int32, (c7 = 0 ∧ h ||| ((p1 &&& (b / 2 ^ (X % 8))) ||| (p2 &&& dM2 X b)) = 0 ∨ c7 = 1 ∧ h ||| ((p1 &&& (b / 2 ^ (X % 8))) ||| (p2 &&& dM2 X b)) ≠ 0) ∧ ((t = 0 ∧ c7 = c6) ∨ (¬ t = 0 ∧ c7 = 1)) := by
        by_cases ht : t = 0
        · obtain ⟨z1, z2⟩ := t2.mp ht
          refine ⟨c6, ?_, Or.inl ⟨ht, rfl⟩⟩
          rw [z1, z2, Nat.or_zero, Nat.or_zero]; exact hc
        · refine ⟨1, Or.inr ⟨rfl, fun q => ht ?_⟩, Or.inr ⟨ht, rfl⟩⟩
          exact t2.mpr (Nat.or_eq_zero_iff.mp (Nat.or_eq_zero_iff.mp q).2)
      obtain ⟨f, rfl⟩ : ∃ f, f2 = f + dJ X + 1 := ⟨f2 - dJ X - 1, by omega⟩
      obtain ⟨V, v1, v2, v3, v4, v5, v6⟩ := s_drawL th z a1 a2 b1 b2 X Y n hX hY hn hz d f1 f (r + 1) (h ||| ((p1 &&& (b / 2 ^ (X % 8))) ||| (p2 &&& dM2 X b))) c7 (rs w (1792 + 8 * (Y + r) + X / 8) (nI (p1 ^^^ (b / 2 ^ (X % 8)))) (nI (p2 ^^^ dM2 X b))) (by omega) (by omega) (by omega) t3 hh' hc7
      obtain ⟨y1, y2⟩ := s_bits th a1 a2 (nI n) w X Y r b p1 p2 (dJ X) h hX (by omega) hb j1 j2 j3 f (dJ X) 0 (by omega)
      rw [eS0, eH0, eSJ, eHJ] at y1 y2
      refine ⟨V, v1, v2, ?_, ?_, ?_, ?_⟩
      · refine (if_pos rfl).trans ((if_neg e).trans ((if_neg e2).trans ?_))
        show f_X7_draw_L (f + dJ X + 1) 63 (aM th w) a1 a2 (nI n) (nI X) (nI Y) (nI h) (nI r) (f_X2_read w (bq_index w + nI r)) 0 = _
        rw [eb]; exact y1.trans v3
      · refine (if_neg e).trans ((if_neg e2).trans ?_)
        show (if (f_X1_drawByte (bs_pc w z) (nI Y + nI r) (nI X) (f_X2_read w (bq_index w + nI r))).1 = 0 then f_X1_draw_L f1 (f_X1_drawByte (bs_pc w z) (nI Y + nI r) (nI X) (f_X2_read w (bq_index w + nI r))).2 b1 b2 (nI n) (nI X) (nI Y) c6 (nI r + Int32.ofInt 1) else f_X1_draw_L f1 (f_X1_drawByte (bs_pc w z) (nI Y + nI r) (nI X) (f_X2_read w (bq_index w + nI r))).2 b1 b2 (nI n) (nI X) (nI Y) 1 (nI r + Int32.ofInt 1)) = _
        rw [eb, show nI Y + nI r = nI (Y + r) from nI_add Y r, t1, nI_oi]
        rcases hsel with ⟨ht, rfl⟩ | ⟨ht, rfl⟩
        · exact (if_pos ht).trans v4
        · exact (if_neg ht).trans v4
      · unfold ok_X7_draw_L
        rw [if_pos rfl, if_neg e, if_neg e2]
        show ok_X7_draw_L (f + dJ X + 1) 63 (aM th w) a1 a2 (nI n) (nI X) (nI Y) (nI h) (nI r) (f_X2_read w (bq_index w + nI r)) 0
        rw [eb]; exact y2 v5
      · unfold ok_X1_draw_L
        rw [if_neg e, if_neg e2]
        show (if (f_X1_drawByte (bs_pc w z) (nI Y + nI r) (nI X) (f_X2_read w (bq_index w + nI r))).1 = 0 then ok_X1_draw_L f1 (f_X1_drawByte (bs_pc w z) (nI Y + nI r) (nI X) (f_X2_read w (bq_index w + nI r))).2 b1 b2 (nI n) (nI X) (nI Y) c6 (nI r + Int32.ofInt 1) else ok_X1_draw_L f1 (f_X1_drawByte (bs_pc w z) (nI Y + nI r) (nI X) (f_X2_read w (bq_index w + nI r))).2 b1 b2 (nI n) (nI X) (nI Y) 1 (nI r + Int32.ofInt 1))
        rw [eb, show nI Y + nI r = nI (Y + r) from nI_add Y r, t1, nI_oi]
        rcases hsel with ⟨ht, rfl⟩ | ⟨ht, rfl⟩
        · rw [if_pos (show (t, rs (bs_pc w z) (1792 + 8 * (Y + r) + X / 8) (nI (p1 ^^^ (b / 2 ^ (X % 8)))) (nI (p2 ^^^ dM2 X b))).1 = 0 from ht)]; exact v6
        · rw [if_neg (show ¬ (t, rs (bs_pc w z) (1792 + 8 * (Y + r) + X / 8) (nI (p1 ^^^ (b / 2 ^ (X % 8)))) (nI (p2 ^^^ dM2 X b))).1 = 0 from ht)]; exact v6
  | _, 0, _, _, _, _, _, _, hf1, _, _, _, _ => absurd hf1 (by omega)
  | _, _ + 1, 0, _, _, _, _, _, _, hf2, _, _, _ => absurd hf2 (by omega)
theorem s_draw {u : BS} {x y n : Int32} (th : Int32) (h : Inv u) (hx : rg 16 x) (hy : rg 16 y) (hn : rg 16 n) : ∃ V : BS, bq_pc V = bq_pc u ∧ Inv V ∧ f_X7_draw (aM th u) x y n = aM th V ∧ f_X1_draw (up u) (f_X1_variable (up u) x) (f_X1_variable (up u) y) n = up V ∧ ok_X7_draw (aM th u) x y n ∧ ok_X1_draw (up u) (f_X1_variable (up u) x) (f_X1_variable (up u) y) n := by
  obtain ⟨X, hX, eX⟩ := rg_and 6 (m := 63) (f_X1_variable u x) rfl
  obtain ⟨Y, hY, eY⟩ := rg_and 5 (m := 31) (f_X1_variable u y) rfl
  obtain ⟨k, hk, rfl⟩ := hn
  obtain ⟨V, v1, v2, v3, v4, v5, v6⟩ := s_drawL th ((bq_pc u + 2) &&& 4095) x y (f_X1_variable (up u) x) (f_X1_variable (up u) y) X Y k hX hY hk (rg_4095 _) k 17 400 0 0 0 u (by omega) (by omega) (by omega) h (by omega) (Or.inl ⟨rfl, rfl⟩)
  have eV : up V = bs_pc V ((bq_pc u + 2) &&& 4095) := by unfold up; rw [v1]
  refine ⟨V, v1, v2, ?_, ?_, ?_, ?_⟩
  · show f_X7_draw_L 400 28 (aM th u) x y (nI k) (mq_v (aM th u) x.toNatClampNeg &&& 63) (mq_v (aM th u) y.toNatClampNeg &&& 31) 0 0 0 0 = _
    rw [s_var th hx, s_var th hy, eX, eY]; exact v3
  · show f_X1_draw_L 17 (up u) (f_X1_variable (up u) x) (f_X1_variable (up u) y) (nI k) (f_X1_variable u x &&& 63) (f_X1_variable u y &&& 31) 0 0 = _
    rw [eX, eY, eV]; exact v4
  · refine ⟨i22 hx, i22 hy, ?_⟩
    show ok_X7_draw_L 400 28 (aM th u) x y (nI k) (mq_v (aM th u) x.toNatClampNeg &&& 63) (mq_v (aM th u) y.toNatClampNeg &&& 31) 0 0 0 0
    rw [s_var th hx, s_var th hy, eX, eY]; exact v5
  · show ok_X1_draw_L 17 (up u) (f_X1_variable (up u) x) (f_X1_variable (up u) y) (nI k) (f_X1_variable u x &&& 63) (f_X1_variable u y &&& 31) 0 0
    rw [eX, eY]; exact v6
