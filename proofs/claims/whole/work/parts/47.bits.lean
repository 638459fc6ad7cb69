theorem nI_and (a b : Nat) : nI a &&& nI b = nI (a &&& b) := by
  apply Int32.toBitVec_inj.mp
  show BitVec.ofNat 32 a &&& BitVec.ofNat 32 b = BitVec.ofNat 32 (a &&& b)
  exact (BitVec.ofNat_and ..).symm
def bn_1 (x : Nat) : Nat := x - ((x / 2) &&& 1431655765)
def bn_2 (x : Nat) : Nat := (x &&& 858993459) + ((x / 4) &&& 858993459)
def bn_3 (x : Nat) : Nat := (x + x / 16) &&& 252645135
def bn_4 (x : Nat) : Nat := x + x / 256
def bn_5 (x : Nat) : Nat := x + x / 65536
def bn (x : Nat) : Nat := bn_5 (bn_4 (bn_3 (bn_2 (bn_1 x)))) &&& 63
def cnt (u : Nat) : Nat → Nat
  | 0 => 0
  | i + 1 => cnt u i + u / 2 ^ i % 2
theorem ush {x : Nat} (h : x < 2 ^ 32) (k : Nat) {s : Int32} (hs : ((s.toUInt32 &&& Int32.toUInt32 31).toBitVec % 32).toNat = k) : ((nI x).toUInt32 >>> (s.toUInt32 &&& Int32.toUInt32 31)).toInt32 = nI (x / 2 ^ k) := pk_ushrN h s k hs
theorem bc_n {u : Nat} (h : u < 65536) : bc (nI u) = nI (bn u) := by
  have e1 : bc_1 (nI u) = nI (bn_1 u) := by
    unfold bc_1 bn_1
    rw [ush (by omega) 1 (by decide), show (1431655765 : Int32) = nI 1431655765 from rfl, nI_and, pk_sub]
    exact Nat.le_trans Nat.and_le_left (by omega)
  have b1 : bn_1 u ≤ u := Nat.sub_le _ _
  have e2 : bc_2 (nI (bn_1 u)) = nI (bn_2 (bn_1 u)) := by
    unfold bc_2 bn_2
    rw [ush (by omega) 2 (by decide), show (858993459 : Int32) = nI 858993459 from rfl, nI_and, nI_and, nI_add]
  have b2 : bn_2 (bn_1 u) ≤ 131072 := by
    unfold bn_2
    have h1 : (bn_1 u &&& 858993459) ≤ bn_1 u := Nat.and_le_left
    have h2 : (bn_1 u / 4 &&& 858993459) ≤ bn_1 u / 4 := Nat.and_le_left
    omega
  have e3 : bc_3 (nI (bn_2 (bn_1 u))) = nI (bn_3 (bn_2 (bn_1 u))) := by
    unfold bc_3 bn_3
    rw [ush (by omega) 4 (by decide), nI_add, show (252645135 : Int32) = nI 252645135 from rfl, nI_and]
  have b3 : bn_3 (bn_2 (bn_1 u)) ≤ 200000 := by
    unfold bn_3
    have h1 : ((bn_2 (bn_1 u) + bn_2 (bn_1 u) / 16) &&& 252645135) ≤ bn_2 (bn_1 u) + bn_2 (bn_1 u) / 16 := Nat.and_le_left
    omega
  have e4 : bc_4 (nI (bn_3 (bn_2 (bn_1 u)))) = nI (bn_4 (bn_3 (bn_2 (bn_1 u)))) := by
    unfold bc_4 bn_4
    rw [ush (by omega) 8 (by decide), nI_add]
  have b4 : bn_4 (bn_3 (bn_2 (bn_1 u))) ≤ 300000 := by
    unfold bn_4
    omega
  unfold bc bn
  rw [e1, e2, e3, e4]
  unfold bc_5 bn_5
  rw [ush (by omega) 16 (by decide), nI_add, show (63 : Int32) = nI 63 from rfl, nI_and]
theorem mn_n {u : Nat} (h : u < 65536) : ∀ n, n ≤ 16 → mn (nI u) n = nI (cnt u n)
  | 0, _ => rfl
  | n + 1, hn => by
    have ih := mn_n h n (by omega)
    have hs : ∀ n, n < 16 → ((nI n &&& 31).toBitVec.smod 32).toNat = n := by decide +kernel
    show mn (nI u) n + ((nI u >>> (nI n &&& 31)) &&& 1) = nI (cnt u n + u / 2 ^ n % 2)
    have hb : u / 2 ^ n ≤ u := Nat.div_le_self _ _
    rw [ih, pk_shrN (by omega) _ n (hs n (by omega)), pk_andN (by omega) 1 (by decide), nI_add]
def c4 (u : Nat) : Nat := u % 2 + u / 2 % 2 + u / 4 % 2 + u / 8 % 2
def bq_k : Nat → Bool
  | 0 => true
  | k + 1 => Nat.beq (bn k) (c4 k + c4 (k / 16) + c4 (k / 256) + c4 (k / 4096)) && bq_k k
set_option maxRecDepth 100000 in
theorem bn_c : bq_k 65536 = true := by decide +kernel
theorem bq_o : ∀ n, bq_k n = true → ∀ u, u < n → bn u = c4 u + c4 (u / 16) + c4 (u / 256) + c4 (u / 4096)
  | 0, _, u, hu => absurd hu (Nat.not_lt_zero u)
  | n + 1, h, u, hu => by
    simp only [bq_k, Bool.and_eq_true] at h
    by_cases e : u = n
    · rw [e]; exact Nat.eq_of_beq_eq_true h.1
    · exact bq_o n h.2 u (by omega)
theorem bc_mn {u : Nat} (h : u < 65536) : bc (nI u) = mn (nI u) 16 := by
  rw [bc_n h, mn_n h 16 (Nat.le_refl 16), bq_o 65536 bn_c u h]
  congr 1
  simp [c4, cnt, Nat.div_div_eq_div_mul, Nat.add_assoc]
