theorem ar_bv (n : Nat) : (nI n).toBitVec = BitVec.ofNat 32 n := rfl
theorem ar_and (a b : Nat) : nI a &&& nI b = nI (a &&& b) := Int32.toBitVec_inj.mp (by rw [Int32.toBitVec_and, ar_bv, ar_bv, ar_bv, BitVec.ofNat_and])
theorem ar_or (a b : Nat) : nI a ||| nI b = nI (a ||| b) := Int32.toBitVec_inj.mp (by rw [Int32.toBitVec_or, ar_bv, ar_bv, ar_bv, BitVec.ofNat_or])
theorem ar_xor (a b : Nat) : nI a ^^^ nI b = nI (a ^^^ b) := Int32.toBitVec_inj.mp (by rw [Int32.toBitVec_xor, ar_bv, ar_bv, ar_bv, BitVec.ofNat_xor])
theorem ar_orN {a b : Nat} (k : Nat) (hb : b < 2 ^ k) : a * 2 ^ k ||| b = a * 2 ^ k + b := by
  rw [Nat.mul_comm, ← Nat.two_pow_add_eq_or_of_lt hb]
theorem ar_andH {n : Nat} (h : n < 65536) : n &&& 65280 = n / 256 * 256 := by
  have h1 : n &&& 65280 = n - (n &&& 255) := by
    have e : n = (n / 256) * 2 ^ 8 ||| (n % 256) := by
      rw [ar_orN 8 (by show n % 256 < 256; omega)]
      omega
    have h2 : n &&& 255 = n % 256 := Nat.and_two_pow_sub_one_eq_mod n 8
    have h3 : n &&& 65280 = (n / 256) * 256 := by
      have h4 : n / 256 < 256 := by omega
      have h5 : ∀ a : Fin 256, ∀ b : Fin 256, (a.val * 256 + b.val) &&& 65280 = a.val * 256 := by decide +kernel
      have h6 := h5 ⟨n / 256, h4⟩ ⟨n % 256, by omega⟩
      have h7 : n / 256 * 256 + n % 256 = n := by omega
      simp only [h7] at h6
      exact h6
    rw [h2, h3]; omega
  have h2 : n &&& 255 = n % 256 := Nat.and_two_pow_sub_one_eq_mod n 8
  rw [h1, h2]; omega
theorem ar_low {a z : Int32} (ha : rg 65536 a) (hz : rg 256 z) : (a &&& 65280) ||| z = ((a &&& 65280) + z) &&& 65535 := by
  obtain ⟨n, h1, rfl⟩ := ha
  obtain ⟨k, h2, rfl⟩ := hz
  have e1 : nI n &&& 65280 = nI (n / 256 * 256) := by
    rw [show (65280 : Int32) = nI 65280 from rfl, ar_and, ar_andH h1]
  rw [e1, ar_or, nI_add, show n / 256 * 256 ||| k = n / 256 * 256 + k from ar_orN 8 h2, pk_andN (by omega) 16 rfl, Nat.mod_eq_of_lt (by omega)]
theorem ar_pair {a b : Int32} (ha : rg 256 a) (hb : rg 256 b) : (a <<< ((8 : Int32) &&& 31)) ||| b = a * 256 + b ∧ (a * 256 + b) &&& 65535 = a * 256 + b ∧ rg 65536 (a * 256 + b) := by
  obtain ⟨n, h1, rfl⟩ := ha
  obtain ⟨k, h2, rfl⟩ := hb
  have e1 : nI n <<< ((8 : Int32) &&& 31) = nI (n * 2 ^ 8) := pk_shlN _ 8 rfl (by omega)
  have e2 : nI n * 256 = nI (n * 256) := pk_mul n 256
  refine ⟨?_, ?_, ?_⟩
  · rw [e1, e2, ar_or, ar_orN 8 h2, nI_add]
  · rw [e2, nI_add, pk_andN (by omega) 16 rfl, Nat.mod_eq_of_lt (by omega)]
  · rw [e2, nI_add]; exact ⟨_, by omega, rfl⟩
theorem ar_high {a d : Int32} (ha : rg 65536 a) (hd : rg 256 d) : (d <<< ((8 : Int32) &&& 31)) ||| (a &&& 255) = ((a &&& 255) + 256 * d) &&& 65535 := by
  have hb : rg 256 (a &&& 255) := rg_255 a
  obtain ⟨e1, e2, -⟩ := ar_pair hd hb
  rw [e1, ← e2, Int32.add_comm (d * 256), Int32.mul_comm d 256]
theorem ar_left : ∀ n : Fin 256, ∀ b : Fin 2, (((nI n.val <<< ((1 : Int32) &&& 31)) &&& 255) ||| nI b.val = ((nI n.val <<< ((1 : Int32) &&& 31)) ||| nI b.val) &&& 255) ∧ nI n.val >>> ((7 : Int32) &&& 31) = ((nI n.val <<< ((1 : Int32) &&& 31)) ||| nI b.val) >>> ((8 : Int32) &&& 31) ∧ ((nI n.val <<< ((1 : Int32) &&& 31)) ||| nI b.val) >>> ((8 : Int32) &&& 31) = nI (n.val / 128) := by decide +kernel
theorem ar_right : ∀ n : Fin 256, ∀ b : Fin 2, (nI n.val >>> ((1 : Int32) &&& 31)) ||| (nI b.val <<< ((7 : Int32) &&& 31)) = nI (n.val / 2 + b.val * 128) := by decide +kernel
theorem ar_add {a d c : Int32} (ha : rg 256 a) (hd : rg 256 d) (hc : rg 2 c) : rg 2 (((a + d) + c) >>> ((8 : Int32) &&& 31)) := by
  obtain ⟨n, h1, rfl⟩ := ha
  obtain ⟨k, h2, rfl⟩ := hd
  obtain ⟨m, h3, rfl⟩ := hc
  rw [nI_add, nI_add, pk_shrN (by omega) _ 8 rfl]
  exact ⟨_, by omega, rfl⟩
theorem ar_or8 {a d : Int32} (ha : rg 256 a) (hd : rg 256 d) : rg 256 (a ||| d) ∧ rg 256 (a &&& d) ∧ rg 256 (a ^^^ d) := by
  obtain ⟨n, h1, rfl⟩ := ha
  obtain ⟨k, h2, rfl⟩ := hd
  rw [ar_or, ar_and, ar_xor]
  exact ⟨⟨_, Nat.or_lt_two_pow (n := 8) h1 h2, rfl⟩, ⟨_, Nat.and_lt_two_pow (n := 8) _ h2, rfl⟩, ⟨_, Nat.xor_lt_two_pow (n := 8) h1 h2, rfl⟩⟩
theorem ar_mark {a d : Int32} (ha : rg 16 a) (hd : rg 16 d) : rg 256 ((16 : Int32) * a + d) := by
  obtain ⟨n, h1, rfl⟩ := ha
  obtain ⟨k, h2, rfl⟩ := hd
  rw [show (16 : Int32) * nI n = nI (16 * n) from pk_mul 16 n, nI_add]
  exact ⟨_, by omega, rfl⟩
theorem ar_nib {a : Int32} (ha : rg 256 a) : rg 16 (a >>> ((4 : Int32) &&& 31)) := by
  obtain ⟨n, h1, rfl⟩ := ha
  rw [pk_shrN (by omega) _ 4 rfl]
  exact ⟨_, by omega, rfl⟩
theorem ar_hi8 {a : Int32} (ha : rg 65536 a) : rg 256 (a >>> ((8 : Int32) &&& 31)) := by
  obtain ⟨n, h1, rfl⟩ := ha
  rw [pk_shrN (by omega) _ 8 rfl]
  exact ⟨_, by omega, rfl⟩
theorem ar_2 {z : Int32} (h : rg 2 z) : z = 0 ∨ z = 1 := by
  obtain ⟨n, h1, rfl⟩ := h
  rcases (show n = 0 ∨ n = 1 by omega) with rfl | rfl
  · exact Or.inl rfl
  · exact Or.inr rfl
theorem ar_nar {z : Int32} (h : rg 2 z) : vp_nar .boolean z = z := by
  rcases ar_2 h with rfl | rfl <;> rfl
