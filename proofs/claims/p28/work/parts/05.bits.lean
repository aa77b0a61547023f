/-! bits of small sets, in whole numbers -/
def p2 (k : Int) : Int := 2 ^ k.toNat
def bt (m k : Int) : Int := m / p2 k % 2
def sb (m k : Int) : Int := if bt m k = 1 then m else m + p2 k
def ub (m k : Int) : Int := if bt m k = 1 then m - p2 k else m
theorem b_shl {k : Int} (h : 0 ≤ k ∧ k ≤ 8) : iI 1 <<< (iI k &&& 31) = iI (p2 k) := by
  obtain ⟨n, rfl⟩ := Int.eq_ofNat_of_zero_le h.1
  have hn : n < 9 := by omega
  have key : ∀ n : Nat, n < 9 → iI 1 <<< (iI (n : Int) &&& 31) = iI (p2 (n : Int)) := by decide +kernel
  exact key n hn
theorem b_shr {m k : Int} (hm : 0 ≤ m ∧ m < 256) (h : 0 ≤ k ∧ k ≤ 8) : iI m >>> (iI k &&& 31) = iI (m / p2 k) := by
  obtain ⟨n, rfl⟩ := Int.eq_ofNat_of_zero_le h.1
  obtain ⟨a, rfl⟩ := Int.eq_ofNat_of_zero_le hm.1
  have key : ∀ a : Nat, a < 256 → ∀ n : Nat, n < 9 → iI (a : Int) >>> (iI (n : Int) &&& 31) = iI ((a : Int) / p2 (n : Int)) := by decide +kernel
  exact key a (by omega) n (by omega)
theorem b_and1 {m : Int} (hm : 0 ≤ m ∧ m < 256) : iI m &&& iI 1 = iI (m % 2) := by
  obtain ⟨a, rfl⟩ := Int.eq_ofNat_of_zero_le hm.1
  have key : ∀ a : Nat, a < 256 → iI (a : Int) &&& iI 1 = iI ((a : Int) % 2) := by decide +kernel
  exact key a (by omega)
theorem b_or {m k : Int} (hm : 0 ≤ m ∧ m < 256) (h : 0 ≤ k ∧ k < 8) : iI m ||| iI (p2 k) = iI (sb m k) := by
  obtain ⟨n, rfl⟩ := Int.eq_ofNat_of_zero_le h.1
  obtain ⟨a, rfl⟩ := Int.eq_ofNat_of_zero_le hm.1
  have key : ∀ a : Nat, a < 256 → ∀ n : Nat, n < 8 → iI (a : Int) ||| iI (p2 (n : Int)) = iI (sb (a : Int) (n : Int)) := by decide +kernel
  exact key a (by omega) n (by omega)
theorem b_andp {m k : Int} (hm : 0 ≤ m ∧ m < 256) (h : 0 ≤ k ∧ k < 8) : iI m &&& iI (p2 k) = iI (bt m k * p2 k) := by
  obtain ⟨n, rfl⟩ := Int.eq_ofNat_of_zero_le h.1
  obtain ⟨a, rfl⟩ := Int.eq_ofNat_of_zero_le hm.1
  have key : ∀ a : Nat, a < 256 → ∀ n : Nat, n < 8 → iI (a : Int) &&& iI (p2 (n : Int)) = iI (bt (a : Int) (n : Int) * p2 (n : Int)) := by decide +kernel
  exact key a (by omega) n (by omega)
theorem b_xorm {m : Int} (hm : 0 ≤ m ∧ m < 256) : iI m ^^^ iI (-1) = iI (-1 - m) := by
  obtain ⟨a, rfl⟩ := Int.eq_ofNat_of_zero_le hm.1
  have key : ∀ a : Nat, a < 256 → iI (a : Int) ^^^ iI (-1) = iI (-1 - (a : Int)) := by decide +kernel
  exact key a (by omega)
theorem b_andn {m k : Int} (hm : 0 ≤ m ∧ m < 256) (h : 0 ≤ k ∧ k < 8) : iI m &&& iI (-1 - p2 k) = iI (ub m k) := by
  obtain ⟨n, rfl⟩ := Int.eq_ofNat_of_zero_le h.1
  obtain ⟨a, rfl⟩ := Int.eq_ofNat_of_zero_le hm.1
  have key : ∀ a : Nat, a < 256 → ∀ n : Nat, n < 8 → iI (a : Int) &&& iI (-1 - p2 (n : Int)) = iI (ub (a : Int) (n : Int)) := by decide +kernel
  exact key a (by omega) n (by omega)
theorem p2_k {k : Int} (h : 0 ≤ k ∧ k ≤ 8) : 1 ≤ p2 k ∧ p2 k ≤ 256 := by
  obtain ⟨n, rfl⟩ := Int.eq_ofNat_of_zero_le h.1
  have key : ∀ n : Nat, n < 9 → 1 ≤ p2 (n : Int) ∧ p2 (n : Int) ≤ 256 := by decide +kernel
  exact key n (by omega)
theorem p2_lt {k n : Int} (h : 0 ≤ k) (hk : k < n) (hn : n ≤ 8) : 2 * p2 k ≤ p2 n := by
  obtain ⟨a, rfl⟩ := Int.eq_ofNat_of_zero_le h
  obtain ⟨b, rfl⟩ := Int.eq_ofNat_of_zero_le (show 0 ≤ n by omega)
  have key : ∀ b : Nat, b < 9 → ∀ a : Nat, a < b → 2 * p2 (a : Int) ≤ p2 (b : Int) := by decide +kernel
  exact key b (by omega) a (by omega)
theorem bt_01 (m k : Int) : bt m k = 0 ∨ bt m k = 1 := by
  unfold bt
  omega
/-- a set of n, with one more of n, is a set of n -/
theorem sb_lt {m k n : Int} (hm : 0 ≤ m ∧ m < p2 n) (hk : 0 ≤ k ∧ k < n) (hn : n ≤ 7) : 0 ≤ sb m k ∧ sb m k < p2 n := by
  obtain ⟨a, rfl⟩ := Int.eq_ofNat_of_zero_le hm.1
  obtain ⟨b, rfl⟩ := Int.eq_ofNat_of_zero_le (show 0 ≤ n by omega)
  obtain ⟨d, rfl⟩ := Int.eq_ofNat_of_zero_le hk.1
  have key : ∀ b : Nat, b < 8 → ∀ d : Nat, d < b → ∀ a : Nat, a < 2 ^ b → sb (a : Int) (d : Int) < 2 ^ b ∧ (a : Int) ≤ sb (a : Int) (d : Int) := by decide +kernel
  have e : p2 (b : Int) = 2 ^ b := rfl
  have h2 : a < 2 ^ b := by
    have := hm.2
    rw [e] at this
    exact_mod_cast this
  have := key b (by omega) d (by omega) a h2
  rw [e]
  omega
theorem ub_lt {m k n : Int} (hm : 0 ≤ m ∧ m < p2 n) (hk : 0 ≤ k ∧ k < n) (hn : n ≤ 8) : 0 ≤ ub m k ∧ ub m k ≤ m := by
  have h1 := p2_k (k := k) (by omega)
  unfold ub
  by_cases h : bt m k = 1
  · rw [if_pos h]
    unfold bt at h
    have h3 : ¬ m < p2 k := fun h4 => by
      rw [Int.ediv_eq_zero_of_lt hm.1 h4] at h
      omega
    omega
  · rw [if_neg h]
    omega
theorem bt_sb {m k j : Int} (hm : 0 ≤ m ∧ m < 256) (hk : 0 ≤ k ∧ k < 8) (hj : 0 ≤ j ∧ j < 8) : bt (sb m k) j = if j = k then 1 else bt m j := by
  obtain ⟨a, rfl⟩ := Int.eq_ofNat_of_zero_le hm.1
  obtain ⟨b, rfl⟩ := Int.eq_ofNat_of_zero_le hj.1
  obtain ⟨d, rfl⟩ := Int.eq_ofNat_of_zero_le hk.1
  have key : ∀ a : Nat, a < 256 → ∀ d : Nat, d < 8 → ∀ b : Nat, b < 8 → bt (sb (a : Int) (d : Int)) (b : Int) = if (b : Int) = (d : Int) then 1 else bt (a : Int) (b : Int) := by decide +kernel
  exact key a (by omega) d (by omega) b (by omega)
theorem bt_ub {m k j : Int} (hm : 0 ≤ m ∧ m < 256) (hk : 0 ≤ k ∧ k < 8) (hj : 0 ≤ j ∧ j < 8) : bt (ub m k) j = if j = k then 0 else bt m j := by
  obtain ⟨a, rfl⟩ := Int.eq_ofNat_of_zero_le hm.1
  obtain ⟨b, rfl⟩ := Int.eq_ofNat_of_zero_le hj.1
  obtain ⟨d, rfl⟩ := Int.eq_ofNat_of_zero_le hk.1
  have key : ∀ a : Nat, a < 256 → ∀ d : Nat, d < 8 → ∀ b : Nat, b < 8 → bt (ub (a : Int) (d : Int)) (b : Int) = if (b : Int) = (d : Int) then 0 else bt (a : Int) (b : Int) := by decide +kernel
  exact key a (by omega) d (by omega) b (by omega)
/-- all of n -/
theorem bt_all {n j : Int} (hn : 0 ≤ n ∧ n ≤ 8) (hj : 0 ≤ j ∧ j < 8) : bt (p2 n - 1) j = if j < n then 1 else 0 := by
  obtain ⟨a, rfl⟩ := Int.eq_ofNat_of_zero_le hn.1
  obtain ⟨b, rfl⟩ := Int.eq_ofNat_of_zero_le hj.1
  have key : ∀ a : Nat, a < 9 → ∀ b : Nat, b < 8 → bt (p2 (a : Int) - 1) (b : Int) = if (b : Int) < (a : Int) then 1 else 0 := by decide +kernel
  exact key a (by omega) b (by omega)
theorem bt_0 {j : Int} : bt 0 j = 0 := by
  unfold bt
  rw [Int.zero_ediv]
  rfl
theorem bt_p2 {k j : Int} (hk : 0 ≤ k ∧ k < 8) (hj : 0 ≤ j ∧ j < 8) : bt (p2 k) j = if j = k then 1 else 0 := by
  obtain ⟨a, rfl⟩ := Int.eq_ofNat_of_zero_le hk.1
  obtain ⟨b, rfl⟩ := Int.eq_ofNat_of_zero_le hj.1
  have key : ∀ a : Nat, a < 8 → ∀ b : Nat, b < 8 → bt (p2 (a : Int)) (b : Int) = if (b : Int) = (a : Int) then 1 else 0 := by decide +kernel
  exact key a (by omega) b (by omega)
/-- sets are told by their bits -/
theorem bt_ext {a b : Int} (ha : 0 ≤ a ∧ a < 256) (hb : 0 ≤ b ∧ b < 256) (h : ∀ j : Int, 0 ≤ j → j < 8 → bt a j = bt b j) : a = b := by
  have h0 := h 0 (by omega) (by omega)
  have h1 := h 1 (by omega) (by omega)
  have h2 := h 2 (by omega) (by omega)
  have h3 := h 3 (by omega) (by omega)
  have h4 := h 4 (by omega) (by omega)
  have h5 := h 5 (by omega) (by omega)
  have h6 := h 6 (by omega) (by omega)
  have h7 := h 7 (by omega) (by omega)
  unfold bt at h0 h1 h2 h3 h4 h5 h6 h7
  rw [show p2 0 = 1 from rfl] at h0
  rw [show p2 1 = 2 from rfl] at h1
  rw [show p2 2 = 4 from rfl] at h2
  rw [show p2 3 = 8 from rfl] at h3
  rw [show p2 4 = 16 from rfl] at h4
  rw [show p2 5 = 32 from rfl] at h5
  rw [show p2 6 = 64 from rfl] at h6
  rw [show p2 7 = 128 from rfl] at h7
  omega
