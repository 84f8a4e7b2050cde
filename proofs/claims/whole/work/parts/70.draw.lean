def mk1 (s b : Nat) : Nat → Nat
  | 0 => 0
  | j + 1 => if b / 2 ^ (7 - j) % 2 = 1 ∧ s + j < 8 then mk1 s b j ||| (128 / 2 ^ (s + j)) else mk1 s b j
def mk2 (s b : Nat) : Nat → Nat
  | 0 => 0
  | j + 1 => if b / 2 ^ (7 - j) % 2 = 1 ∧ ¬ s + j < 8 then mk2 s b j ||| (128 / 2 ^ (s + j - 8)) else mk2 s b j
theorem fk1 : ∀ s : Fin 8, ∀ b : Fin 256, ∀ j : Fin 8, s.val + j.val < 8 → mk1 s.val b.val j.val &&& (128 / 2 ^ (s.val + j.val)) = 0 ∧ mk1 s.val b.val j.val ^^^ (128 / 2 ^ (s.val + j.val)) = mk1 s.val b.val j.val ||| (128 / 2 ^ (s.val + j.val)) := by decide +kernel
theorem fk2 : ∀ s : Fin 8, ∀ b : Fin 256, ∀ j : Fin 8, ¬ s.val + j.val < 8 → mk2 s.val b.val j.val &&& (128 / 2 ^ (s.val + j.val - 8)) = 0 ∧ mk2 s.val b.val j.val ^^^ (128 / 2 ^ (s.val + j.val - 8)) = mk2 s.val b.val j.val ||| (128 / 2 ^ (s.val + j.val - 8)) := by decide +kernel
theorem fk3 : ∀ s : Fin 8, ∀ b : Fin 256, mk1 s.val b.val 8 = b.val / 2 ^ s.val ∧ mk1 s.val b.val (8 - s.val) = b.val / 2 ^ s.val ∧ mk2 s.val b.val 8 = b.val * 2 ^ (8 - s.val) % 256 ∧ mk2 s.val b.val (8 - s.val) = 0 := by decide +kernel
theorem btI : ∀ j : Fin 8, ∀ b : Fin 256, ((nI b.val >>> (((7 : Int32) - nI j.val) &&& 31)) &&& 1) = nI (b.val / 2 ^ (7 - j.val) % 2) := by decide +kernel
theorem mskI : ∀ X : Fin 64, ∀ j : Fin 8, ((128 : Int32) >>> (((nI X.val + nI j.val) &&& 7) &&& 31)) = nI (128 / 2 ^ ((X.val + j.val) % 8)) := by decide +kernel
theorem sh1I : ∀ b : Fin 256, ∀ s : Fin 8, nI b.val >>> (nI s.val &&& 31) = nI (b.val / 2 ^ s.val) := by decide +kernel
theorem sh2I : ∀ b : Fin 256, ∀ s : Fin 8, (nI b.val <<< (((8 : Int32) - nI s.val) &&& 31)) &&& 255 = nI (b.val * 2 ^ (8 - s.val) % 256) := by decide +kernel
theorem xk {p m k : Nat} (h0 : m &&& k = 0) (h1 : m ^^^ k = m ||| k) : (p ^^^ m) &&& k = p &&& k ∧ (p ^^^ m) ^^^ k = p ^^^ (m ||| k) := by
  refine ⟨?_, ?_⟩
  · rw [Nat.and_xor_distrib_right, h0, Nat.xor_zero]
  · rw [Nat.xor_assoc, h1]
def rs (w : BS) (A : Nat) (v1 v2 : Int32) : BS := bs_mem w (upd (upd (bq_mem w) A v1) (A + 1) v2)
theorem rs_A (w : BS) (A : Nat) (v1 v2 : Int32) : bq_mem (rs w A v1 v2) A = v1 := by
  show upd (upd (bq_mem w) A v1) (A + 1) v2 A = v1
  rw [pk_un (by omega), pk_us]
theorem rs_B (w : BS) (A : Nat) (v1 v2 : Int32) : bq_mem (rs w A v1 v2) (A + 1) = v2 := pk_us
theorem up_id (f : Nat → Int32) (k : Nat) : upd f k (f k) = f := by
  funext i
  by_cases e : i = k
  · subst e; exact pk_us
  · exact pk_un e
theorem up_up (f : Nat → Int32) (k : Nat) (a b : Int32) : upd (upd f k a) k b = upd f k b := by
  funext i
  by_cases e : i = k
  · subst e; rw [pk_us, pk_us]
  · rw [pk_un e, pk_un e, pk_un e]
theorem up_sw (f : Nat → Int32) (k j : Nat) (a b : Int32) (h : k ≠ j) : upd (upd f k a) j b = upd (upd f j b) k a := by
  funext i
  by_cases e : i = j
  · subst e; rw [pk_us, pk_un (Ne.symm h), pk_us]
  · rw [pk_un e]
    by_cases e2 : i = k
    · subst e2; rw [pk_us, pk_us]
    · rw [pk_un e2, pk_un e2, pk_un e]
theorem rs_1 (w : BS) (A : Nat) (v1 v2 z : Int32) : bs_mem (rs w A v1 v2) (upd (bq_mem (rs w A v1 v2)) A z) = rs w A z v2 := by
  show bs_mem w (upd (upd (upd (bq_mem w) A v1) (A + 1) v2) A z) = bs_mem w (upd (upd (bq_mem w) A z) (A + 1) v2)
  rw [up_sw (upd (bq_mem w) A v1) (A + 1) A v2 z (by omega), up_up]
theorem rs_2 (w : BS) (A : Nat) (v1 v2 z : Int32) : bs_mem (rs w A v1 v2) (upd (bq_mem (rs w A v1 v2)) (A + 1) z) = rs w A v1 z := by
  show bs_mem w (upd (upd (upd (bq_mem w) A v1) (A + 1) v2) (A + 1) z) = bs_mem w (upd (upd (bq_mem w) A v1) (A + 1) z)
  rw [up_up]
theorem rs_0 (w : BS) (A : Nat) : rs w A (bq_mem w A) (bq_mem w (A + 1)) = w := by
  unfold rs
  rw [up_id, up_id]; rfl
theorem rs_h (w : BS) (A : Nat) (v1 : Int32) : rs w A v1 (bq_mem w (A + 1)) = bs_mem w (upd (bq_mem w) A v1) := by
  unfold rs
  have e : bq_mem w (A + 1) = upd (bq_mem w) A v1 (A + 1) := (pk_un (by omega)).symm
  rw [e, up_id]
/-- the model's row of bits -/
def dS (w : BS) (A p1 p2 s b j : Nat) : BS := rs w A (nI (p1 ^^^ mk1 s b j)) (nI (p2 ^^^ mk2 s b j))
def dH (h p1 p2 s b j : Nat) : Nat := h ||| ((p1 &&& mk1 s b j) ||| (p2 &&& mk2 s b j))
theorem mk_no {s b j : Nat} (q : ¬ b / 2 ^ (7 - j) % 2 = 1) : mk1 s b (j + 1) = mk1 s b j ∧ mk2 s b (j + 1) = mk2 s b j := ⟨if_neg (fun z => q z.1), if_neg (fun z => q z.1)⟩
theorem mk_1 {s b j : Nat} (q : b / 2 ^ (7 - j) % 2 = 1) (hs : s + j < 8) : mk1 s b (j + 1) = mk1 s b j ||| (128 / 2 ^ (s + j)) ∧ mk2 s b (j + 1) = mk2 s b j := ⟨if_pos ⟨q, hs⟩, if_neg (fun z => z.2 hs)⟩
theorem mk_2 {s b j : Nat} (q : b / 2 ^ (7 - j) % 2 = 1) (hs : ¬ s + j < 8) : mk1 s b (j + 1) = mk1 s b j ∧ mk2 s b (j + 1) = mk2 s b j ||| (128 / 2 ^ (s + j - 8)) := ⟨if_neg (fun z => hs z.2), if_pos ⟨q, hs⟩⟩
theorem d_adr {X Y r j : Nat} (hX : X < 64) (hY : Y < 32) (hr : r < 32) (hj : j < 8) : (((1792 : Int32) + ((8 : Int32) * (nI Y + nI r))) + ((nI X + nI j) >>> ((3 : Int32) &&& 31))) = nI (1792 + 8 * (Y + r) + (X + j) / 8) := by
  rw [nI_add, nI_add, show (8 : Int32) * nI (Y + r) = nI (8 * (Y + r)) from pk_mul 8 _, show (1792 : Int32) + nI (8 * (Y + r)) = nI (1792 + 8 * (Y + r)) from nI_add 1792 _, pk_shrN (by omega) _ 3 rfl, nI_add]
theorem s_bits (th a1 a2 a3 : Int32) (w : BS) (X Y r b p1 p2 J h : Nat) (hX : X < 64) (hY : Y + r < 32) (hb : b < 256) (hJ : J ≤ 8) (hJ2 : X + J ≤ 64) (hJ3 : J = 8 ∨ X + J = 64) (f : Nat) : ∀ (d j : Nat), j + d = J →
    f_X7_draw_L (f + d + 1) 63 (aM th (dS w (1792 + 8 * (Y + r) + X / 8) p1 p2 (X % 8) b j)) a1 a2 a3 (nI X) (nI Y) (nI (dH h p1 p2 (X % 8) b j)) (nI r) (nI b) (nI j) = f_X7_draw_L f 28 (aM th (dS w (1792 + 8 * (Y + r) + X / 8) p1 p2 (X % 8) b J)) a1 a2 a3 (nI X) (nI Y) (nI (dH h p1 p2 (X % 8) b J)) (nI (r + 1)) 0 0 ∧ (ok_X7_draw_L f 28 (aM th (dS w (1792 + 8 * (Y + r) + X / 8) p1 p2 (X % 8) b J)) a1 a2 a3 (nI X) (nI Y) (nI (dH h p1 p2 (X % 8) b J)) (nI (r + 1)) 0 0 → ok_X7_draw_L (f + d + 1) 63 (aM th (dS w (1792 + 8 * (Y + r) + X / 8) p1 p2 (X % 8) b j)) a1 a2 a3 (nI X) (nI Y) (nI (dH h p1 p2 (X % 8) b j)) (nI r) (nI b) (nI j))
  | 0, j, hj => by
    have ej : j = J := by omega
    subst ej
    by_cases q : j = 8
    · have e : 8 ≤ nI j := (nI_leI (a := 8) (b := j) (by omega) (by omega)).mpr (by omega)
      refine ⟨(if_neg (by decide)).trans ((if_pos e).trans ?_), fun k => ?_⟩
      · show f_X7_draw_L f 28 _ a1 a2 a3 (nI X) (nI Y) _ (nI r + Int32.ofInt 1) 0 0 = _
        rw [nI_oi]
      · unfold ok_X7_draw_L; rw [if_neg (by decide), if_pos e]
        show ok_X7_draw_L f 28 _ a1 a2 a3 (nI X) (nI Y) _ (nI r + Int32.ofInt 1) 0 0
        rw [nI_oi]; exact k
    · have e : ¬ 8 ≤ nI j := fun z => absurd ((nI_leI (a := 8) (b := j) (by omega) (by omega)).mp z) (by omega)
      have e2 : 64 ≤ nI X + nI j := by rw [nI_add]; exact (nI_leI (a := 64) (b := X + j) (by omega) (by omega)).mpr (by omega)
      refine ⟨(if_neg (by decide)).trans ((if_neg e).trans ((if_pos e2).trans ?_)), fun k => ?_⟩
      · show f_X7_draw_L f 28 _ a1 a2 a3 (nI X) (nI Y) _ (nI r + Int32.ofInt 1) 0 0 = _
        rw [nI_oi]
      · unfold ok_X7_draw_L; rw [if_neg (by decide), if_neg e, if_pos e2]
        show ok_X7_draw_L f 28 _ a1 a2 a3 (nI X) (nI Y) _ (nI r + Int32.ofInt 1) 0 0
        rw [nI_oi]; exact k
  | d + 1, j, hj => by
    have hj8 : j < 8 := by omega
    have e : ¬ 8 ≤ nI j := fun z => absurd ((nI_leI (a := 8) (b := j) (by omega) (by omega)).mp z) (by omega)
    have e2 : ¬ 64 ≤ nI X + nI j := by rw [nI_add]; exact fun z => absurd ((nI_leI (a := 64) (b := X + j) (by omega) (by omega)).mp z) (by omega)
    have eb := btI ⟨j, hj8⟩ ⟨b, hb⟩
    obtain ⟨y1, y2⟩ := s_bits th a1 a2 a3 w X Y r b p1 p2 J h hX hY hb hJ hJ2 hJ3 f d (j + 1) (by omega)
    by_cases q : b / 2 ^ (7 - j) % 2 = 1
    · have e3 : ¬ ((nI b >>> (((7 : Int32) - nI j) &&& 31)) &&& 1) = 0 := by rw [eb, q]; decide
      have ea := d_adr (X := X) (Y := Y) (r := r) (j := j) hX (by omega) (by omega) hj8
      have ek := mskI ⟨X, hX⟩ ⟨j, hj8⟩
      simp only at ek
      have em : f_X7_draw_L (f + d + 1) 63 (ms_mem (aM th (dS w (1792 + 8 * (Y + r) + X / 8) p1 p2 (X % 8) b j)) (upd (mq_mem (aM th (dS w (1792 + 8 * (Y + r) + X / 8) p1 p2 (X % 8) b j))) (1792 + 8 * (Y + r) + (X + j) / 8) ((mq_mem (aM th (dS w (1792 + 8 * (Y + r) + X / 8) p1 p2 (X % 8) b j)) (1792 + 8 * (Y + r) + (X + j) / 8)) ^^^ nI (128 / 2 ^ ((X + j) % 8))))) a1 a2 a3 (nI X) (nI Y) (nI (dH h p1 p2 (X % 8) b j) ||| ((mq_mem (aM th (dS w (1792 + 8 * (Y + r) + X / 8) p1 p2 (X % 8) b j)) (1792 + 8 * (Y + r) + (X + j) / 8)) &&& nI (128 / 2 ^ ((X + j) % 8)))) (nI r) (nI b) (nI (j + 1)) = f_X7_draw_L (f + d + 1) 63 (aM th (dS w (1792 + 8 * (Y + r) + X / 8) p1 p2 (X % 8) b (j + 1))) a1 a2 a3 (nI X) (nI Y) (nI (dH h p1 p2 (X % 8) b (j + 1))) (nI r) (nI b) (nI (j + 1)) ∧ ok_X7_draw_L (f + d + 1) 63 (ms_mem (aM th (dS w (1792 + 8 * (Y + r) + X / 8) p1 p2 (X % 8) b j)) (upd (mq_mem (aM th (dS w (1792 + 8 * (Y + r) + X / 8) p1 p2 (X % 8) b j))) (1792 + 8 * (Y + r) + (X + j) / 8) ((mq_mem (aM th (dS w (1792 + 8 * (Y + r) + X / 8) p1 p2 (X % 8) b j)) (1792 + 8 * (Y + r) + (X + j) / 8)) ^^^ nI (128 / 2 ^ ((X + j) % 8))))) a1 a2 a3 (nI X) (nI Y) (nI (dH h p1 p2 (X % 8) b j) ||| ((mq_mem (aM th (dS w (1792 + 8 * (Y + r) + X / 8) p1 p2 (X % 8) b j)) (1792 + 8 * (Y + r) + (X + j) / 8)) &&& nI (128 / 2 ^ ((X + j) % 8)))) (nI r) (nI b) (nI (j + 1)) = ok_X7_draw_L (f + d + 1) 63 (aM th (dS w (1792 + 8 * (Y + r) + X / 8) p1 p2 (X % 8) b (j + 1))) a1 a2 a3 (nI X) (nI Y) (nI (dH h p1 p2 (X % 8) b (j + 1))) (nI r) (nI b) (nI (j + 1)) := by
        by_cases hs : X % 8 + j < 8
        · have a1' : (X + j) / 8 = X / 8 := by omega
          have a2' : (X + j) % 8 = X % 8 + j := by omega
          obtain ⟨k1, k2⟩ := fk1 ⟨X % 8, by omega⟩ ⟨b, hb⟩ ⟨j, hj8⟩ hs
          obtain ⟨g1, g2⟩ := xk (p := p1) k1 k2
          obtain ⟨n1, n2⟩ := mk_1 (s := X % 8) q hs
          rw [a1', a2', M_mem, m_mem]
          have c1 : bq_mem (dS w (1792 + 8 * (Y + r) + X / 8) p1 p2 (X % 8) b j) (1792 + 8 * (Y + r) + X / 8) = nI (p1 ^^^ mk1 (X % 8) b j) := rs_A _ _ _ _
          have c2 : bs_mem (dS w (1792 + 8 * (Y + r) + X / 8) p1 p2 (X % 8) b j) (upd (bq_mem (dS w (1792 + 8 * (Y + r) + X / 8) p1 p2 (X % 8) b j)) (1792 + 8 * (Y + r) + X / 8) (nI (p1 ^^^ mk1 (X % 8) b j) ^^^ nI (128 / 2 ^ (X % 8 + j)))) = dS w (1792 + 8 * (Y + r) + X / 8) p1 p2 (X % 8) b (j + 1) := by
            unfold dS
            rw [rs_1, ar_xor, n1, n2, g2]
          have c3 : nI (dH h p1 p2 (X % 8) b j) ||| (nI (p1 ^^^ mk1 (X % 8) b j) &&& nI (128 / 2 ^ (X % 8 + j))) = nI (dH h p1 p2 (X % 8) b (j + 1)) := by
            rw [ar_and, ar_or, g1]
            unfold dH
            rw [n1, n2, Nat.and_or_distrib_left]
            exact congrArg nI (by ac_rfl)
          rw [c1, c2, c3]
          exact ⟨rfl, rfl⟩
        · have a1' : (X + j) / 8 = X / 8 + 1 := by omega
          have a2' : (X + j) % 8 = X % 8 + j - 8 := by omega
          obtain ⟨k1, k2⟩ := fk2 ⟨X % 8, by omega⟩ ⟨b, hb⟩ ⟨j, hj8⟩ hs
          obtain ⟨g1, g2⟩ := xk (p := p2) k1 k2
          obtain ⟨n1, n2⟩ := mk_2 (s := X % 8) q hs
          rw [a1', a2', M_mem, m_mem, ← Nat.add_assoc]
          have c1 : bq_mem (dS w (1792 + 8 * (Y + r) + X / 8) p1 p2 (X % 8) b j) (1792 + 8 * (Y + r) + X / 8 + 1) = nI (p2 ^^^ mk2 (X % 8) b j) := rs_B _ _ _ _
          have c2 : bs_mem (dS w (1792 + 8 * (Y + r) + X / 8) p1 p2 (X % 8) b j) (upd (bq_mem (dS w (1792 + 8 * (Y + r) + X / 8) p1 p2 (X % 8) b j)) (1792 + 8 * (Y + r) + X / 8 + 1) (nI (p2 ^^^ mk2 (X % 8) b j) ^^^ nI (128 / 2 ^ (X % 8 + j - 8)))) = dS w (1792 + 8 * (Y + r) + X / 8) p1 p2 (X % 8) b (j + 1) := by
            unfold dS
            rw [rs_2, ar_xor, n1, n2, g2]
          have c3 : nI (dH h p1 p2 (X % 8) b j) ||| (nI (p2 ^^^ mk2 (X % 8) b j) &&& nI (128 / 2 ^ (X % 8 + j - 8))) = nI (dH h p1 p2 (X % 8) b (j + 1)) := by
            rw [ar_and, ar_or, g1]
            unfold dH
            rw [n1, n2, Nat.and_or_distrib_left]
            exact congrArg nI (by ac_rfl)
          rw [c1, c2, c3]
          exact ⟨rfl, rfl⟩
      have hin : vp_in (nI (1792 + 8 * (Y + r) + (X + j) / 8)) 2048 := vp_in_nI (by omega) (by omega)
      refine ⟨(if_neg (by decide)).trans ((if_neg e).trans ((if_neg e2).trans ((if_neg e3).trans ?_))), fun k => ?_⟩
      · rw [← y1, ← em.1]
        show f_X7_draw_L (f + d + 1) 63 (ms_mem (aM th (dS w (1792 + 8 * (Y + r) + X / 8) p1 p2 (X % 8) b j)) (upd (mq_mem (aM th (dS w (1792 + 8 * (Y + r) + X / 8) p1 p2 (X % 8) b j))) ((((1792 : Int32) + ((8 : Int32) * (nI Y + nI r))) + ((nI X + nI j) >>> ((3 : Int32) &&& 31)))).toNatClampNeg ((mq_mem (aM th (dS w (1792 + 8 * (Y + r) + X / 8) p1 p2 (X % 8) b j)) ((((1792 : Int32) + ((8 : Int32) * (nI Y + nI r))) + ((nI X + nI j) >>> ((3 : Int32) &&& 31)))).toNatClampNeg) ^^^ ((128 : Int32) >>> (((nI X + nI j) &&& 7) &&& 31))))) a1 a2 a3 (nI X) (nI Y) (nI (dH h p1 p2 (X % 8) b j) ||| ((mq_mem (aM th (dS w (1792 + 8 * (Y + r) + X / 8) p1 p2 (X % 8) b j)) ((((1792 : Int32) + ((8 : Int32) * (nI Y + nI r))) + ((nI X + nI j) >>> ((3 : Int32) &&& 31)))).toNatClampNeg) &&& ((128 : Int32) >>> (((nI X + nI j) &&& 7) &&& 31)))) (nI r) (nI b) (nI j + Int32.ofInt 1) = _
        rw [ea, ek, nI_oi, nI_clamp (by omega)]
      · have k2 := y2 k
        rw [← em.2] at k2
        unfold ok_X7_draw_L
        rw [if_neg (by decide), if_neg e, if_neg e2, if_neg e3]
        show vp_in ((((1792 : Int32) + ((8 : Int32) * (nI Y + nI r))) + ((nI X + nI j) >>> ((3 : Int32) &&& 31)))) 2048 ∧ vp_in ((((1792 : Int32) + ((8 : Int32) * (nI Y + nI r))) + ((nI X + nI j) >>> ((3 : Int32) &&& 31)))) 2048 ∧ vp_in ((((1792 : Int32) + ((8 : Int32) * (nI Y + nI r))) + ((nI X + nI j) >>> ((3 : Int32) &&& 31)))) 2048 ∧ ok_X7_draw_L (f + d + 1) 63 (ms_mem (aM th (dS w (1792 + 8 * (Y + r) + X / 8) p1 p2 (X % 8) b j)) (upd (mq_mem (aM th (dS w (1792 + 8 * (Y + r) + X / 8) p1 p2 (X % 8) b j))) ((((1792 : Int32) + ((8 : Int32) * (nI Y + nI r))) + ((nI X + nI j) >>> ((3 : Int32) &&& 31)))).toNatClampNeg ((mq_mem (aM th (dS w (1792 + 8 * (Y + r) + X / 8) p1 p2 (X % 8) b j)) ((((1792 : Int32) + ((8 : Int32) * (nI Y + nI r))) + ((nI X + nI j) >>> ((3 : Int32) &&& 31)))).toNatClampNeg) ^^^ ((128 : Int32) >>> (((nI X + nI j) &&& 7) &&& 31))))) a1 a2 a3 (nI X) (nI Y) (nI (dH h p1 p2 (X % 8) b j) ||| ((mq_mem (aM th (dS w (1792 + 8 * (Y + r) + X / 8) p1 p2 (X % 8) b j)) ((((1792 : Int32) + ((8 : Int32) * (nI Y + nI r))) + ((nI X + nI j) >>> ((3 : Int32) &&& 31)))).toNatClampNeg) &&& ((128 : Int32) >>> (((nI X + nI j) &&& 7) &&& 31)))) (nI r) (nI b) (nI j + Int32.ofInt 1)
        rw [ea, ek, nI_oi, nI_clamp (by omega)]
        exact ⟨hin, hin, hin, k2⟩
    · have q0 : b / 2 ^ (7 - j) % 2 = 0 := by omega
      have e3 : ((nI b >>> (((7 : Int32) - nI j) &&& 31)) &&& 1) = 0 := by rw [eb, q0]; rfl
      obtain ⟨n1, n2⟩ := mk_no (s := X % 8) q
      have c1 : dS w (1792 + 8 * (Y + r) + X / 8) p1 p2 (X % 8) b (j + 1) = dS w (1792 + 8 * (Y + r) + X / 8) p1 p2 (X % 8) b j := by unfold dS; rw [n1, n2]
      have c2 : dH h p1 p2 (X % 8) b (j + 1) = dH h p1 p2 (X % 8) b j := by unfold dH; rw [n1, n2]
      rw [c1, c2] at y1 y2
      refine ⟨(if_neg (by decide)).trans ((if_neg e).trans ((if_neg e2).trans ((if_pos e3).trans ?_))), fun k => ?_⟩
      · rw [← y1]
        show f_X7_draw_L (f + d + 1) 63 (aM th (dS w (1792 + 8 * (Y + r) + X / 8) p1 p2 (X % 8) b j)) a1 a2 a3 (nI X) (nI Y) (nI (dH h p1 p2 (X % 8) b j)) (nI r) (nI b) (nI j + Int32.ofInt 1) = _
        rw [nI_oi]
      · unfold ok_X7_draw_L
        rw [if_neg (by decide), if_neg e, if_neg e2, if_pos e3]
        show ok_X7_draw_L (f + d + 1) 63 (aM th (dS w (1792 + 8 * (Y + r) + X / 8) p1 p2 (X % 8) b j)) a1 a2 a3 (nI X) (nI Y) (nI (dH h p1 p2 (X % 8) b j)) (nI r) (nI b) (nI j + Int32.ofInt 1)
        rw [nI_oi]; exact y2 k
