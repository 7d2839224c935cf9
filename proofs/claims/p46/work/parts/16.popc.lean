/-! the count of bits, as Long.bitCount finds it -/
def bM (c : Nat) : Nat → Nat
  | 0 => 0
  | k + 1 => 256 * bM c k + c
theorem and_cut {c M : Nat} (hc : c < 256) (a : Nat) : a &&& (256 * M + c) = 256 * ((a / 256) &&& M) + ((a % 256) &&& c) := by
  have h1 : (a &&& (256 * M + c)) / 256 = (a / 256) &&& M := by
    have := @Nat.and_div_two_pow a (256 * M + c) 8
    rw [show (2 : Nat) ^ 8 = 256 from rfl] at this
    rw [this, show (256 * M + c) / 256 = M by omega]
  have h2 : (a &&& (256 * M + c)) % 256 = (a % 256) &&& c := by
    have := @Nat.and_mod_two_pow a (256 * M + c) 8
    rw [show (2 : Nat) ^ 8 = 256 from rfl] at this
    rw [this, show (256 * M + c) % 256 = c by omega]
  omega
def s1 (M n : Nat) : Nat := n - ((n / 2) &&& M)
def s2 (M n : Nat) : Nat := (n &&& M) + ((n / 4) &&& M)
def s3 (M n : Nat) : Nat := (n + n / 16) &&& M
theorem s1_cut (M : Nat) {y z : Nat} (hz : z < 256) : s1 (256 * M + 85) (256 * y + z) = 256 * s1 M y + s1 85 z := by
  unfold s1
  rw [and_cut (by decide), show (256 * y + z) / 2 / 256 = y / 2 by omega, show (256 * y + z) / 2 % 256 = 128 * (y % 2) + z / 2 by omega]
  have h : ∀ r, r < 2 → ∀ z, z < 256 → (128 * r + z / 2) &&& 85 = (z / 2) &&& 85 := by decide +kernel
  rw [h _ (Nat.mod_lt _ (by decide)) z hz]
  have h1 : (y / 2) &&& M ≤ y / 2 := Nat.and_le_left
  have h2 : (z / 2) &&& 85 ≤ z / 2 := Nat.and_le_left
  omega
theorem s1_lt {z : Nat} (hz : z < 256) : s1 85 z < 256 := by unfold s1; omega
theorem s2_cut (M : Nat) {y z : Nat} (hz : z < 256) : s2 (256 * M + 51) (256 * y + z) = 256 * s2 M y + s2 51 z := by
  unfold s2
  rw [and_cut (by decide), and_cut (by decide), show (256 * y + z) / 256 = y by omega, show (256 * y + z) % 256 = z by omega, show (256 * y + z) / 4 / 256 = y / 4 by omega, show (256 * y + z) / 4 % 256 = 64 * (y % 4) + z / 4 by omega]
  have h : ∀ r, r < 4 → ∀ z, z < 256 → (64 * r + z / 4) &&& 51 = (z / 4) &&& 51 := by decide +kernel
  rw [h _ (Nat.mod_lt _ (by decide)) z hz]
  omega
theorem s2_nib : ∀ z, z < 256 → s2 51 (s1 85 z) ≤ 68 ∧ s2 51 (s1 85 z) % 16 ≤ 4 ∧ s3 15 (s2 51 (s1 85 z)) = cS (fun j => z.testBit j) 8 := by decide +kernel
theorem s3_cut (M : Nat) {y z : Nat} (hz : z ≤ 68) (hy : y % 16 ≤ 4) : s3 (256 * M + 15) (256 * y + z) = 256 * s3 M y + s3 15 z := by
  unfold s3
  rw [and_cut (by decide), show (256 * y + z + (256 * y + z) / 16) / 256 = y + y / 16 by omega]
  congr 1
  have h : ∀ a b : Nat, a % 16 = b % 16 → a &&& 15 = b &&& 15 := fun a b e => by
    rw [show (15 : Nat) = 2 ^ 4 - 1 from rfl, Nat.and_two_pow_sub_one_eq_mod, Nat.and_two_pow_sub_one_eq_mod]
    exact e
  exact h _ _ (by omega)
theorem byte_split (n : Nat) : n = 256 * (n / 256) + n % 256 := by omega
def sF (k n : Nat) : Nat := s3 (bM 15 k) (s2 (bM 51 k) (s1 (bM 85 k) n))
theorem sM_nib : ∀ (k n : Nat), n < 256 ^ k → s2 (bM 51 k) (s1 (bM 85 k) n) % 16 ≤ 4
  | 0, n, h => by
    have : n = 0 := by rw [Nat.pow_zero] at h; omega
    subst this; decide
  | k + 1, n, h => by
    have hz : n % 256 < 256 := Nat.mod_lt _ (by decide)
    rw [byte_split n, bM, bM, s1_cut _ hz, s2_cut _ (s1_lt hz)]
    have := (s2_nib _ hz).2.1
    omega
theorem sF_cut {k n : Nat} (h : n < 256 ^ (k + 1)) : sF (k + 1) n = 256 * sF k (n / 256) + cS (fun j => (n % 256).testBit j) 8 := by
  have hz : n % 256 < 256 := Nat.mod_lt _ (by decide)
  have hy : n / 256 < 256 ^ k := by rw [Nat.pow_succ] at h; omega
  unfold sF
  conv => lhs; rw [byte_split n, bM, bM, bM, s1_cut _ hz, s2_cut _ (s1_lt hz), s3_cut _ (s2_nib _ hz).1 (sM_nib k _ hy)]
  rw [(s2_nib _ hz).2.2]
def pb (n i : Nat) : Nat := cS (fun j => (n / 256 ^ i % 256).testBit j) 8
theorem pb_le (n i : Nat) : pb n i ≤ 8 := cS_le _ _
theorem sF_8 {n : Nat} (h : n < 2 ^ 64) : sF 8 n = pb n 0 + 256 * (pb n 1 + 256 * (pb n 2 + 256 * (pb n 3 + 256 * (pb n 4 + 256 * (pb n 5 + 256 * (pb n 6 + 256 * pb n 7)))))) := by
  have e0 : sF 0 (n / 256 / 256 / 256 / 256 / 256 / 256 / 256 / 256) = 0 := by
    rw [show n / 256 / 256 / 256 / 256 / 256 / 256 / 256 / 256 = 0 by omega]; decide
  rw [sF_cut (by omega), sF_cut (by omega), sF_cut (by omega), sF_cut (by omega), sF_cut (by omega), sF_cut (by omega), sF_cut (by omega), sF_cut (by omega), e0]
  unfold pb
  rw [show n / 256 ^ 0 = n by omega, show n / 256 ^ 1 = n / 256 by omega, show n / 256 ^ 2 = n / 256 / 256 by omega, show n / 256 ^ 3 = n / 256 / 256 / 256 by omega, show n / 256 ^ 4 = n / 256 / 256 / 256 / 256 by omega, show n / 256 ^ 5 = n / 256 / 256 / 256 / 256 / 256 by omega, show n / 256 ^ 6 = n / 256 / 256 / 256 / 256 / 256 / 256 by omega, show n / 256 ^ 7 = n / 256 / 256 / 256 / 256 / 256 / 256 / 256 by omega]
  omega
theorem cS_byte (n i : Nat) : cS (fun k => n.testBit (8 * i + k)) 8 = pb n i := by
  unfold pb
  apply cS_cong
  intro k hk
  rw [show 256 = 2 ^ 8 from rfl, ← Nat.pow_mul, Nat.testBit_mod_two_pow, Nat.testBit_div_two_pow]
  simp [hk, Nat.add_comm]
theorem popc_8 {n : Nat} (h : n < 2 ^ 64) : popc (lN n) = pb n 0 + pb n 1 + pb n 2 + pb n 3 + pb n 4 + pb n 5 + pb n 6 + pb n 7 := by
  unfold popc
  have e : ∀ j, (lN n).toBitVec.getLsbD j = n.testBit j := fun j => by
    show (lN n).toBitVec.toNat.testBit j = _
    rw [wb_tn h]
  rw [cS_cong (T := fun j => n.testBit j) (fun k _ => e k)]
  have c : ∀ i, cS (fun j => n.testBit j) (8 * i + 8) = cS (fun j => n.testBit j) (8 * i) + pb n i := fun i => by rw [cS_add, cS_byte]
  rw [show 64 = 8 * 7 + 8 from rfl, c, show 8 * 7 = 8 * 6 + 8 from rfl, c, show 8 * 6 = 8 * 5 + 8 from rfl, c, show 8 * 5 = 8 * 4 + 8 from rfl, c, show 8 * 4 = 8 * 3 + 8 from rfl, c, show 8 * 3 = 8 * 2 + 8 from rfl, c, show 8 * 2 = 8 * 1 + 8 from rfl, c, show 8 * 1 = 8 * 0 + 8 from rfl, c]
  show 0 + pb n 0 + _ + _ + _ + _ + _ + _ + _ = _
  omega
def t6 (m : Nat) : Nat := (m + m / 256) + (m + m / 256) / 65536 + ((m + m / 256) + (m + m / 256) / 65536) / 4294967296
theorem popc_t6 {n : Nat} (h : n < 2 ^ 64) : t6 (sF 8 n) % 128 = popc (lN n) := by
  rw [popc_8 h, sF_8 h]
  have h0 := pb_le n 0
  have h1 := pb_le n 1
  have h2 := pb_le n 2
  have h3 := pb_le n 3
  have h4 := pb_le n 4
  have h5 := pb_le n 5
  have h6 := pb_le n 6
  have h7 := pb_le n 7
  generalize pb n 0 = c0 at *
  generalize pb n 1 = c1 at *
  generalize pb n 2 = c2 at *
  generalize pb n 3 = c3 at *
  generalize pb n 4 = c4 at *
  generalize pb n 5 = c5 at *
  generalize pb n 6 = c6 at *
  generalize pb n 7 = c7 at *
  have e1 : (c0 + 256 * (c1 + 256 * (c2 + 256 * (c3 + 256 * (c4 + 256 * (c5 + 256 * (c6 + 256 * c7))))))) / 256 = c1 + 256 * (c2 + 256 * (c3 + 256 * (c4 + 256 * (c5 + 256 * (c6 + 256 * c7))))) := by omega
  have eA : c0 + 256 * (c1 + 256 * (c2 + 256 * (c3 + 256 * (c4 + 256 * (c5 + 256 * (c6 + 256 * c7)))))) + (c1 + 256 * (c2 + 256 * (c3 + 256 * (c4 + 256 * (c5 + 256 * (c6 + 256 * c7)))))) = (c0 + c1) + 256 * ((c1 + c2) + 256 * ((c2 + c3) + 256 * ((c3 + c4) + 256 * ((c4 + c5) + 256 * ((c5 + c6) + 256 * ((c6 + c7) + 256 * c7)))))) := by omega
  have e2 : ((c0 + c1) + 256 * ((c1 + c2) + 256 * ((c2 + c3) + 256 * ((c3 + c4) + 256 * ((c4 + c5) + 256 * ((c5 + c6) + 256 * ((c6 + c7) + 256 * c7))))))) / 65536 = (c2 + c3) + 256 * ((c3 + c4) + 256 * ((c4 + c5) + 256 * ((c5 + c6) + 256 * ((c6 + c7) + 256 * c7)))) := by omega
  have eB : (c0 + c1) + 256 * ((c1 + c2) + 256 * ((c2 + c3) + 256 * ((c3 + c4) + 256 * ((c4 + c5) + 256 * ((c5 + c6) + 256 * ((c6 + c7) + 256 * c7)))))) + ((c2 + c3) + 256 * ((c3 + c4) + 256 * ((c4 + c5) + 256 * ((c5 + c6) + 256 * ((c6 + c7) + 256 * c7))))) = (c0 + c1 + c2 + c3) + 256 * ((c1 + c2 + c3 + c4) + 256 * ((c2 + c3 + c4 + c5) + 256 * ((c3 + c4 + c5 + c6) + 256 * ((c4 + c5 + c6 + c7) + 256 * ((c5 + c6 + c7) + 256 * ((c6 + c7) + 256 * c7)))))) := by omega
  have e3 : ((c0 + c1 + c2 + c3) + 256 * ((c1 + c2 + c3 + c4) + 256 * ((c2 + c3 + c4 + c5) + 256 * ((c3 + c4 + c5 + c6) + 256 * ((c4 + c5 + c6 + c7) + 256 * ((c5 + c6 + c7) + 256 * ((c6 + c7) + 256 * c7))))))) / 4294967296 = (c4 + c5 + c6 + c7) + 256 * ((c5 + c6 + c7) + 256 * ((c6 + c7) + 256 * c7)) := by omega
  unfold t6
  rw [e1, eA, e2, eB, e3]
  clear e1 eA e2 eB e3
  omega
theorem bM_85 : bM 85 8 = 6148914691236517205 := by decide +kernel
theorem bM_51 : bM 51 8 = 3689348814741910323 := by decide +kernel
theorem bM_15 : bM 15 8 = 1085102592571150095 := by decide +kernel
