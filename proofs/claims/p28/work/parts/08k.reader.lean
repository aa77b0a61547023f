/-! THE READING OF A TEXT, told by its signs T and its length len; p a place, e a reason -/
abbrev isDg (T : Int → Int) (len p : Int) : Prop := p < len ∧ 48 ≤ T p ∧ T p ≤ 57
abbrev isAc (T : Int → Int) (len p c : Int) : Prop := p < len ∧ T p = c
def nuG (T : Int → Int) (len : Int) : Nat → Int → Int → Int × Int
  | 0, v, p => (v, p)
  | k + 1, v, p => if 0 < v ∧ isDg T len p then nuG T len k (v * 10 + (T p - 48)) (p + 1) else (v, p)
theorem nuG_stop {T : Int → Int} {len d v p : Int} (h : 4 ≤ d ∨ ¬ (0 < v ∧ isDg T len p)) : nuG T len (4 - d).toNat v p = (v, p) := by
  rcases h with h | h
  · rw [show (4 - d).toNat = 0 by omega]; rfl
  · cases (4 - d).toNat with
    | zero => rfl
    | succ k => unfold nuG; rw [if_neg h]
theorem nuG_step {T : Int → Int} {len d v p : Int} (hd : d < 4) (h : 0 < v ∧ isDg T len p) : nuG T len (4 - d).toNat v p = nuG T len (4 - (d + 1)).toNat (v * 10 + (T p - 48)) (p + 1) := by
  rw [show (4 - d).toNat = (4 - (d + 1)).toNat + 1 by omega]
  rw [nuG]
  rw [if_pos h]
/-- a number's value, its end, its reason -/
def nV (T : Int → Int) (len p : Int) : Int := if isDg T len p then (nuG T len 3 (T p - 48) (p + 1)).1 else 0
def nP (T : Int → Int) (len p : Int) : Int := if isDg T len p then (nuG T len 3 (T p - 48) (p + 1)).2 else p
def nR (T : Int → Int) (len p : Int) : Int := if isDg T len p then 0 else 1
/-- an entry's -/
def enV (T : Int → Int) (len p : Int) : Int := if isAc T len p 120 then -1 else nV T len p
def enP (T : Int → Int) (len p : Int) : Int := if isAc T len p 120 then p + 1 else nP T len p
def enR (T : Int → Int) (len p : Int) : Int := if isAc T len p 120 then 0 else nR T len p
/-- a sign that is due; fits: it may stand here -/
def stP (T : Int → Int) (len p c f : Int) : Int := if isAc T len p c ∧ f ≠ 0 then p + 1 else p
def stR (T : Int → Int) (len p c f : Int) : Int := if isAc T len p c then (if f = 0 then 2 else 0) else 1
theorem nuG_b {T : Int → Int} {len : Int} : ∀ (k : Nat) (v p b : Int), 0 ≤ v → v ≤ b → p ≤ len → (0 ≤ (nuG T len k v p).1 ∧ (nuG T len k v p).1 ≤ (b + 1) * 10 ^ k - 1) ∧ p ≤ (nuG T len k v p).2 ∧ (nuG T len k v p).2 ≤ len := by
  intro k
  induction k with
  | zero => intro v p b h0 h1 h2; show (0 ≤ v ∧ v ≤ (b + 1) * 10 ^ 0 - 1) ∧ p ≤ p ∧ p ≤ len; omega
  | succ k ih =>
    intro v p b h0 h1 h2
    rw [nuG]
    by_cases hc : 0 < v ∧ isDg T len p
    · rw [if_pos hc]
      have h := ih (v * 10 + (T p - 48)) (p + 1) (b * 10 + 9) (by omega) (by omega) (by omega)
      have e : (b * 10 + 9 + 1) * 10 ^ k = (b + 1) * 10 ^ (k + 1) := by
        rw [Int.pow_succ]
        rw [show b * 10 + 9 + 1 = (b + 1) * 10 by omega, Int.mul_assoc, Int.mul_comm 10]
      rw [e] at h
      omega
    · rw [if_neg hc]
      have h3 : (1 : Int) ≤ 10 ^ (k + 1) := by
        have h5 : (0 : Int) < 10 ^ (k + 1) := Int.pow_pos (by omega)
        omega
      have h4 : (b + 1) * 1 ≤ (b + 1) * 10 ^ (k + 1) := Int.mul_le_mul_of_nonneg_left h3 (by omega)
      show (0 ≤ v ∧ v ≤ _) ∧ p ≤ p ∧ p ≤ len
      omega
theorem nV_b {T : Int → Int} {len p : Int} : 0 ≤ nV T len p ∧ nV T len p ≤ 9999 := by
  unfold nV
  by_cases h : isDg T len p
  · rw [if_pos h]
    have := (nuG_b (T := T) (len := len) 3 (T p - 48) (p + 1) 9 (by omega) (by omega) (by omega)).1
    omega
  · rw [if_neg h]; omega
theorem nP_b {T : Int → Int} {len p : Int} (hp : p ≤ len) : p ≤ nP T len p ∧ nP T len p ≤ len := by
  unfold nP
  by_cases h : isDg T len p
  · rw [if_pos h]
    have := (nuG_b (T := T) (len := len) 3 (T p - 48) (p + 1) 9 (by omega) (by omega) (by omega)).2
    omega
  · rw [if_neg h]; omega
theorem nR_b {T : Int → Int} {len p : Int} : 0 ≤ nR T len p ∧ nR T len p ≤ 1 := by
  unfold nR
  by_cases h : isDg T len p
  · rw [if_pos h]; omega
  · rw [if_neg h]; omega
theorem enV_b {T : Int → Int} {len p : Int} : -1 ≤ enV T len p ∧ enV T len p ≤ 9999 := by
  have := nV_b (T := T) (len := len) (p := p)
  unfold enV
  by_cases h : isAc T len p 120
  · rw [if_pos h]; omega
  · rw [if_neg h]; omega
theorem enP_b {T : Int → Int} {len p : Int} (hp : p ≤ len) : p ≤ enP T len p ∧ enP T len p ≤ len := by
  have := nP_b (T := T) hp
  unfold enP
  by_cases h : isAc T len p 120
  · rw [if_pos h]; omega
  · rw [if_neg h]; omega
theorem enR_b {T : Int → Int} {len p : Int} : 0 ≤ enR T len p ∧ enR T len p ≤ 1 := by
  have := nR_b (T := T) (len := len) (p := p)
  unfold enR
  by_cases h : isAc T len p 120
  · rw [if_pos h]; omega
  · rw [if_neg h]; omega
theorem stP_b {T : Int → Int} {len p c f : Int} (hp : p ≤ len) : p ≤ stP T len p c f ∧ stP T len p c f ≤ len := by
  unfold stP
  by_cases h : isAc T len p c ∧ f ≠ 0
  · rw [if_pos h]; omega
  · rw [if_neg h]; omega
theorem stR_b {T : Int → Int} {len p c f : Int} : 0 ≤ stR T len p c f ∧ stR T len p c f ≤ 2 := by
  unfold stR
  by_cases h : isAc T len p c
  · rw [if_pos h]
    by_cases h2 : f = 0
    · rw [if_pos h2]; omega
    · rw [if_neg h2]; omega
  · rw [if_neg h]; omega
/-- the entries of a row, from the n-th at the place p on: how many there are then, the place, the reason -/
def esG (T : Int → Int) (len most : Int) : Nat → Int → Int → Int × Int × Int
  | 0, n, p => (n, p, 0)
  | k + 1, n, p => if enR T len p ≠ 0 then (n + 1, enP T len p, enR T len p)
    else if isAc T len (enP T len p) 44 then (if n + 1 < most then esG T len most k (n + 1) (enP T len p + 1) else (n + 1, enP T len p, 2))
    else (n + 1, enP T len p, 0)
theorem esG_s {T : Int → Int} {len most n p : Int} (h : n < most) : esG T len most (most - n).toNat n p = if enR T len p ≠ 0 then (n + 1, enP T len p, enR T len p)
    else if isAc T len (enP T len p) 44 then (if n + 1 < most then esG T len most (most - (n + 1)).toNat (n + 1) (enP T len p + 1) else (n + 1, enP T len p, 2))
    else (n + 1, enP T len p, 0) := by
  rw [show (most - n).toNat = (most - (n + 1)).toNat + 1 by omega]
  rw [esG]
def esR (T : Int → Int) (len most p : Int) : Int × Int × Int := esG T len most most.toNat 0 p
/-- the place of the k-th entry -/
def plS (T : Int → Int) (len p k : Int) : Int := FI (fun a _ => enP T len a + 1) p k
theorem plS_s {T : Int → Int} {len p k : Int} (h : 0 ≤ k) : plS T len p (k + 1) = enP T len (plS T len p k) + 1 := FI_s h
theorem esG_b {T : Int → Int} {len most : Int} : ∀ (k : Nat) (n p : Int), n + k = most → 0 < k → p ≤ len → (n < (esG T len most k n p).1 ∧ (esG T len most k n p).1 ≤ most) ∧ (p ≤ (esG T len most k n p).2.1 ∧ (esG T len most k n p).2.1 ≤ len) ∧ 0 ≤ (esG T len most k n p).2.2 ∧ (esG T len most k n p).2.2 ≤ 2 := by
  intro k
  induction k with
  | zero => intro n p _ h _; omega
  | succ k ih =>
    intro n p hk _ hp
    have h1 := enP_b (T := T) hp
    have h2 := enR_b (T := T) (len := len) (p := p)
    rw [esG]
    by_cases c1 : enR T len p ≠ 0
    · rw [if_pos c1]; show (n < n + 1 ∧ n + 1 ≤ most) ∧ (p ≤ enP T len p ∧ enP T len p ≤ len) ∧ 0 ≤ enR T len p ∧ enR T len p ≤ 2; omega
    · rw [if_neg c1]
      by_cases c2 : isAc T len (enP T len p) 44
      · rw [if_pos c2]
        by_cases c3 : n + 1 < most
        · rw [if_pos c3]
          have h3 := ih (n + 1) (enP T len p + 1) (by omega) (by omega) (by omega)
          omega
        · rw [if_neg c3]; show (n < n + 1 ∧ n + 1 ≤ most) ∧ (p ≤ enP T len p ∧ enP T len p ≤ len) ∧ 0 ≤ (2 : Int) ∧ (2 : Int) ≤ 2; omega
      · rw [if_neg c2]; show (n < n + 1 ∧ n + 1 ≤ most) ∧ (p ≤ enP T len p ∧ enP T len p ≤ len) ∧ 0 ≤ (0 : Int) ∧ (0 : Int) ≤ 2; omega
theorem esR_b {T : Int → Int} {len most p : Int} (hm : 1 ≤ most) (hp : p ≤ len) : (1 ≤ (esR T len most p).1 ∧ (esR T len most p).1 ≤ most) ∧ (p ≤ (esR T len most p).2.1 ∧ (esR T len most p).2.1 ≤ len) ∧ 0 ≤ (esR T len most p).2.2 ∧ (esR T len most p).2.2 ≤ 2 := by
  have := esG_b (T := T) (len := len) (most := most) most.toNat 0 p (by omega) (by omega) hp
  unfold esR
  omega
/-- a row: r its number, w how many entries the first one had -/
def rMo (r w : Int) : Int := if r = 0 then 7 else w
def rFi (r w n : Int) : Int := if r = 0 ∨ n = w then 1 else 0
/-- the place behind the row's "/" and its reason -/
def rsP (T : Int → Int) (len r w p : Int) : Int := stP T len (esR T len (rMo r w) p).2.1 47 (rFi r w (esR T len (rMo r w) p).1)
def rsR (T : Int → Int) (len r w p : Int) : Int := stR T len (esR T len (rMo r w) p).2.1 47 (rFi r w (esR T len (rMo r w) p).1)
def roP (T : Int → Int) (len r w p : Int) : Int := if (esR T len (rMo r w) p).2.2 ≠ 0 then (esR T len (rMo r w) p).2.1 else if rsR T len r w p ≠ 0 then rsP T len r w p else nP T len (rsP T len r w p)
def roR (T : Int → Int) (len r w p : Int) : Int := if (esR T len (rMo r w) p).2.2 ≠ 0 then (esR T len (rMo r w) p).2.2 else if rsR T len r w p ≠ 0 then rsR T len r w p else nR T len (rsP T len r w p)
def roN (T : Int → Int) (len r w p : Int) : Int := (esR T len (rMo r w) p).1
def roW (T : Int → Int) (len r w p : Int) : Int := if r = 0 then roN T len r w p else w
theorem rMo_b {r w : Int} (hw : r = 0 ∨ 1 ≤ w) : 1 ≤ rMo r w := by
  unfold rMo
  by_cases h : r = 0
  · rw [if_pos h]; omega
  · rw [if_neg h]; omega
theorem roP_b {T : Int → Int} {len r w p : Int} (hw : r = 0 ∨ 1 ≤ w) (hp : p ≤ len) : p ≤ roP T len r w p ∧ roP T len r w p ≤ len := by
  have h1 := esR_b (T := T) (len := len) (most := rMo r w) (p := p) (rMo_b hw) hp
  have h2 := stP_b (T := T) (c := 47) (f := rFi r w (esR T len (rMo r w) p).1) h1.2.1.2
  have h3 := nP_b (T := T) h2.2
  unfold roP rsP
  by_cases c1 : (esR T len (rMo r w) p).2.2 ≠ 0
  · rw [if_pos c1]; omega
  · rw [if_neg c1]
    by_cases c2 : rsR T len r w p ≠ 0
    · rw [if_pos c2]; omega
    · rw [if_neg c2]; omega
/-- a text ok -/
def TXK (σ : St) : Prop := (0 ≤ σ 8 0 ∧ σ 8 0 ≤ 80) ∧ ∀ k, 0 ≤ k → k < 80 → 0 ≤ σ 9 k ∧ σ 9 k < 65536
def F10 (σ σ' : St) : Prop := ∀ q k, ¬ (q = 10 ∧ k = 0) → σ' q k = σ q k
def rdU (σ : St) (p e : Int) : St := up (up σ 10 0 p) 10 1 e
theorem rdU_at (σ : St) (p e : Int) : rdU σ p e 10 0 = p ∧ rdU σ p e 10 1 = e ∧ ∀ q k, ¬ (q = 10 ∧ (k = 0 ∨ k = 1)) → rdU σ p e q k = σ q k := by
  refine ⟨?_, ?_, fun q k h => ?_⟩
  · simp [rdU, up]
  · simp [rdU, up]
  · unfold rdU up
    rw [if_neg (by omega), if_neg (by omega)]
theorem rdU_eq {σ σ' : St} {p e : Int} (h1 : σ' 10 0 = p) (h2 : σ' 10 1 = e) (h : ∀ q k, ¬ (q = 10 ∧ (k = 0 ∨ k = 1)) → σ' q k = σ q k) : σ' = rdU σ p e := by
  funext q k
  obtain ⟨a1, a2, a3⟩ := rdU_at σ p e
  by_cases c1 : q = 10 ∧ k = 0
  · rw [c1.1, c1.2, h1, a1]
  · by_cases c2 : q = 10 ∧ k = 1
    · rw [c2.1, c2.2, h2, a2]
    · rw [h q k (by omega), a3 q k (by omega)]
theorem TXK.of {σ σ' : St} (h : TXK σ) (h8 : σ' 8 0 = σ 8 0) (h9 : ∀ k, σ' 9 k = σ 9 k) : TXK σ' := ⟨by rw [h8]; exact h.1, fun k h1 h2 => by rw [h9]; exact h.2 k h1 h2⟩
set_option maxHeartbeats 4000000 in
set_option maxRecDepth 100000 in
theorem k_X3_readNumber (E0 : EV) {ad : Int → Nat} {σ : St} (hTX : TXK σ) (hp : 0 ≤ σ 10 0 ∧ σ 10 0 ≤ σ 8 0) (he : σ 10 1 = 0) : MGE E0 yX3_readNumber wsX3_readNumber 1 21 ad σ [.ref (ad 10)] (PF (nV (σ 9) (σ 8 0) (σ 10 0)) (rdU σ (nP (σ 9) (σ 8 0) (σ 10 0)) (nR (σ 9) (σ 8 0) (σ 10 0)))) := by
  refine MGE.of (cc := cX3_readNumber) (maxL := 3) (ret := (some .int)) (own := RX3) [some (.ref (ad 10)), none, none] (by decide +kernel) rfl rfl (Nat.le_of_ble_eq_true rfl) rfl rfl (fun E X hr => ?_)
  have i3 : ∀ w ∈ wsX30, w ∈ wsX3_readNumber := by decide +kernel
  refine g_rg (fun hR0 => ?_)
  have h8 := hTX.1
  have hd0 := dA_09 σ (σ 10 0)
  refine g_aload0 X dX3_readNumber_0 ?_
  refine gf_3_text X i3 (by decide +kernel) dX3_readNumber_1 ?_
  refine g_aload0 X dX3_readNumber_4 ?_
  refine gf_3_place X i3 (by decide +kernel) dX3_readNumber_5 ?_
  refine g_F1 X (k_X5_digitAt E hTX.1 (by omega) hTX.2) gX3_readNumber_X5_digitAt rfl (by decide +kernel) (by decide) ob_8 (Nat.le_of_ble_eq_true rfl) dX3_readNumber_8 (fun hz8 => ?_)
  refine g_rg (fun hR8 => ?_)
  refine g_istore1 X dX3_readNumber_11 (by decide) (by first | exact Or.inl rfl | exact Or.inr ⟨_, rfl, rfl⟩) ?_
  refine g_iload1 X dX3_readNumber_12 ?_
  refine g_if_ge (tgt := 23) X (by first | exact hR8 _ _ | exact hR0 _ _ | assumption | (unfold InR; omega)) dX3_readNumber_13 (by decide) (fun h13 => ?_) (fun h13 => ?_)
  · skip
    refine g_aload0 X dX3_readNumber_23 ?_
    refine g_dup X dX3_readNumber_24 rfl ?_
    refine gf_3_place X i3 (by decide +kernel) dX3_readNumber_25 ?_
    refine g_iconst X dX3_readNumber_28 ?_
    refine g_iadd X dX3_readNumber_29 ?_
    refine gp_3_place X i3 (by decide +kernel) (by first | exact hR8 _ _ | exact hR0 _ _ | assumption | (unfold InR; omega)) dX3_readNumber_30 ?_
    refine g_rg (fun hR30 => ?_)
    have g1 : dA σ (σ 10 0) = σ 9 (σ 10 0) - 48 := by omega
    refine g_iconst X dX3_readNumber_33 ?_
    refine g_istore2 X dX3_readNumber_34 (by decide) (by first | exact Or.inl rfl | exact Or.inr ⟨_, rfl, rfl⟩) ?_
    have L35 : ∀ (n35 : Nat) (d v : Int) (σ1 : St), (4 - d).toNat < n35 → (1 ≤ d ∧ d ≤ 4) → (0 ≤ v ∧ v ≤ 9999 ∧ (d ≤ 3 → v ≤ 999) ∧ (d ≤ 2 → v ≤ 99) ∧ (d ≤ 1 → v ≤ 9)) → (F10 σ σ1) → (0 ≤ σ1 10 0 ∧ σ1 10 0 ≤ σ 8 0) → (nuG (σ 9) (σ 8 0) 3 (σ 9 (σ 10 0) - 48) (σ 10 0 + 1) = nuG (σ 9) (σ 8 0) (4 - d).toNat v (σ1 10 0)) → WG E ad 3 σ1 35 [some (.ref (ad 10)), some (.int (iI v)), some (.int (iI d))] [] := by
      intro n35
      induction n35 with
      | zero => intro d v σ1 hn; exact absurd hn (Nat.not_lt_zero _)
      | succ n35 ih35 =>
        intro d v σ1 hn35 hd hv hF hp1 hg
        refine g_rg (fun hRL35 => ?_)
        have e8 : σ1 8 0 = σ 8 0 := hF _ _ (by omega)
        have e9 : ∀ k, σ1 9 k = σ 9 k := fun k => hF _ _ (by omega)
        have hTX1 := hTX.of e8 e9
        have hd1 := dA_09 σ1 (σ1 10 0)
        rw [e8, e9] at hd1
        refine g_iload2 X dX3_readNumber_35 ?_
        refine g_iconst X dX3_readNumber_36 ?_
        refine g_icmp_ge (tgt := 91) X (by first | exact hRL35 _ _ | exact hR30 _ _ | exact hR8 _ _ | exact hR0 _ _ | assumption | (unfold InR; omega)) (by first | exact hRL35 _ _ | exact hR30 _ _ | exact hR8 _ _ | exact hR0 _ _ | assumption | (unfold InR; omega)) dX3_readNumber_37 (by decide) (fun h37 => ?_) (fun h37 => ?_)
        · skip
          refine g_iload1 X dX3_readNumber_91 ?_
          exact g_iretF X hr (by first | exact hRL35 _ _ | exact hR30 _ _ | exact hR8 _ _ | exact hR0 _ _ | assumption | (unfold InR; omega)) (by
    have hst := nuG_stop (T := σ 9) (len := σ 8 0) (d := d) (v := v) (p := σ1 10 0) (by omega)
    rw [hst] at hg
    have hdg : isDg (σ 9) (σ 8 0) (σ 10 0) := ⟨by omega, by omega, by omega⟩
    exact ⟨by unfold nV; rw [if_pos hdg, hg], rdU_eq (by unfold nP; rw [if_pos hdg, hg]) (by unfold nR; rw [if_pos hdg, hF _ _ (by omega)]; exact he) (fun q k h => hF q k (by omega))⟩) dX3_readNumber_92
        · skip
          refine g_iload1 X dX3_readNumber_40 ?_
          refine g_if_le (tgt := 91) X (by first | exact hRL35 _ _ | exact hR30 _ _ | exact hR8 _ _ | exact hR0 _ _ | assumption | (unfold InR; omega)) dX3_readNumber_41 (by decide) (fun h41 => ?_) (fun h41 => ?_)
          · skip
            refine g_iload1 X dX3_readNumber_91 ?_
            exact g_iretF X hr (by first | exact hRL35 _ _ | exact hR30 _ _ | exact hR8 _ _ | exact hR0 _ _ | assumption | (unfold InR; omega)) (by
    have hst := nuG_stop (T := σ 9) (len := σ 8 0) (d := d) (v := v) (p := σ1 10 0) (by omega)
    rw [hst] at hg
    have hdg : isDg (σ 9) (σ 8 0) (σ 10 0) := ⟨by omega, by omega, by omega⟩
    exact ⟨by unfold nV; rw [if_pos hdg, hg], rdU_eq (by unfold nP; rw [if_pos hdg, hg]) (by unfold nR; rw [if_pos hdg, hF _ _ (by omega)]; exact he) (fun q k h => hF q k (by omega))⟩) dX3_readNumber_92
          · skip
            refine g_aload0 X dX3_readNumber_44 ?_
            refine gf_3_text X i3 (by decide +kernel) dX3_readNumber_45 ?_
            refine g_aload0 X dX3_readNumber_48 ?_
            refine gf_3_place X i3 (by decide +kernel) dX3_readNumber_49 ?_
            refine g_F1 X (k_X5_digitAt E hTX1.1 (by omega) hTX1.2) gX3_readNumber_X5_digitAt rfl (by decide +kernel) (by decide) ob_8 (Nat.le_of_ble_eq_true rfl) dX3_readNumber_52 (fun hz52 => ?_)
            refine g_rg (fun hR52 => ?_)
            refine g_if_lt (tgt := 91) X (by first | exact hR52 _ _ | exact hRL35 _ _ | exact hR30 _ _ | exact hR8 _ _ | exact hR0 _ _ | assumption | (unfold InR; omega)) dX3_readNumber_55 (by decide) (fun h55 => ?_) (fun h55 => ?_)
            · skip
              refine g_iload1 X dX3_readNumber_91 ?_
              exact g_iretF X hr (by first | exact hR52 _ _ | exact hRL35 _ _ | exact hR30 _ _ | exact hR8 _ _ | exact hR0 _ _ | assumption | (unfold InR; omega)) (by
    have hst := nuG_stop (T := σ 9) (len := σ 8 0) (d := d) (v := v) (p := σ1 10 0) (by omega)
    rw [hst] at hg
    have hdg : isDg (σ 9) (σ 8 0) (σ 10 0) := ⟨by omega, by omega, by omega⟩
    exact ⟨by unfold nV; rw [if_pos hdg, hg], rdU_eq (by unfold nP; rw [if_pos hdg, hg]) (by unfold nR; rw [if_pos hdg, hF _ _ (by omega)]; exact he) (fun q k h => hF q k (by omega))⟩) dX3_readNumber_92
            · skip
              have g2 : dA σ1 (σ1 10 0) = σ 9 (σ1 10 0) - 48 := by omega
              refine g_iload1 X dX3_readNumber_58 ?_
              refine g_bipush X dX3_readNumber_59 (by decide +kernel) ?_
              refine g_imul X dX3_readNumber_61 ?_
              refine g_aload0 X dX3_readNumber_62 ?_
              refine gf_3_text X i3 (by decide +kernel) dX3_readNumber_63 ?_
              refine g_aload0 X dX3_readNumber_66 ?_
              refine gf_3_place X i3 (by decide +kernel) dX3_readNumber_67 ?_
              refine g_F1 X (k_X5_digitAt E hTX1.1 (by omega) hTX1.2) gX3_readNumber_X5_digitAt rfl (by decide +kernel) (by decide) ob_8 (Nat.le_of_ble_eq_true rfl) dX3_readNumber_70 (fun hz70 => ?_)
              refine g_rg (fun hR70 => ?_)
              refine g_iadd X dX3_readNumber_73 ?_
              refine g_istore1 X dX3_readNumber_74 (by decide) (by first | exact Or.inl rfl | exact Or.inr ⟨_, rfl, rfl⟩) ?_
              refine g_aload0 X dX3_readNumber_75 ?_
              refine g_dup X dX3_readNumber_76 rfl ?_
              refine gf_3_place X i3 (by decide +kernel) dX3_readNumber_77 ?_
              refine g_iconst X dX3_readNumber_80 ?_
              refine g_iadd X dX3_readNumber_81 ?_
              refine gp_3_place X i3 (by decide +kernel) (by first | exact hR70 _ _ | exact hR52 _ _ | exact hRL35 _ _ | exact hR30 _ _ | exact hR8 _ _ | exact hR0 _ _ | assumption | (unfold InR; omega)) dX3_readNumber_82 ?_
              refine g_rg (fun hR82 => ?_)
              refine g_iinc2 X dX3_readNumber_85 (by decide) (by first | exact Or.inl rfl | exact Or.inr ⟨_, rfl, rfl⟩) ?_
              refine g_goto (tgt := 35) X dX3_readNumber_88 (by decide) ?_
              refine ih35 _ _ _ (by omega) ?_ ?_ ?_ ?_ ?_
              · omega
              · rw [g2]
                omega
              · intro q k h
                unfold up
                rw [if_neg h]
                exact hF q k h
              · unfold up
                rw [if_pos ⟨rfl, rfl⟩]
                omega
              · rw [hg, nuG_step (by omega) ⟨by omega, by omega, by omega, by omega⟩]
                unfold up
                rw [if_pos ⟨rfl, rfl⟩, g2]
    refine L35 _ _ _ _ (Nat.lt_succ_self _) ?_ ?_ ?_ ?_ ?_
    · omega
    · rw [g1]
      omega
    · intro q k h
      unfold up
      rw [if_neg h]
    · unfold up
      rw [if_pos ⟨rfl, rfl⟩]
      omega
    · unfold up
      rw [if_pos ⟨rfl, rfl⟩, g1]
      rfl
  · skip
    refine g_aload0 X dX3_readNumber_16 ?_
    refine g_iconst X dX3_readNumber_17 ?_
    refine gp_3_reason X i3 (by decide +kernel) (by first | exact hR8 _ _ | exact hR0 _ _ | assumption | (unfold InR; omega)) dX3_readNumber_18 ?_
    refine g_rg (fun hR18 => ?_)
    refine g_iconst X dX3_readNumber_21 ?_
    exact g_iretF X hr (by first | exact hR18 _ _ | exact hR8 _ _ | exact hR0 _ _ | assumption | (unfold InR; omega)) ⟨by unfold nV; rw [if_neg (by omega)], rdU_eq (by unfold up; rw [if_neg (by omega)]; unfold nP; rw [if_neg (by omega)]) (by unfold up; rw [if_pos ⟨rfl, rfl⟩]; unfold nR; rw [if_neg (by omega)]) (fun q k h => by unfold up; rw [if_neg (by omega)])⟩ dX3_readNumber_22

set_option maxHeartbeats 4000000 in
set_option maxRecDepth 100000 in
theorem k_X3_readEntry (E0 : EV) {ad : Int → Nat} {σ : St} (hTX : TXK σ) (hp : 0 ≤ σ 10 0 ∧ σ 10 0 ≤ σ 8 0) (he : σ 10 1 = 0) : MGE E0 yX3_readEntry wsX3_readEntry 2 43 ad σ [.ref (ad 10)] (PF (enV (σ 9) (σ 8 0) (σ 10 0)) (rdU σ (enP (σ 9) (σ 8 0) (σ 10 0)) (enR (σ 9) (σ 8 0) (σ 10 0)))) := by
  refine MGE.of (cc := cX3_readEntry) (maxL := 1) (ret := (some .int)) (own := RX3) [some (.ref (ad 10))] (by decide +kernel) rfl rfl (Nat.le_of_ble_eq_true rfl) rfl rfl (fun E X hr => ?_)
  have i3 : ∀ w ∈ wsX30, w ∈ wsX3_readEntry := by decide +kernel
  refine g_rg (fun hR0 => ?_)
  have h8 := hTX.1
  have hi0 := iA_01 σ (σ 10 0) 120
  refine g_aload0 X dX3_readEntry_0 ?_
  refine gf_3_text X i3 (by decide +kernel) dX3_readEntry_1 ?_
  refine g_aload0 X dX3_readEntry_4 ?_
  refine gf_3_place X i3 (by decide +kernel) dX3_readEntry_5 ?_
  refine g_bipush X dX3_readEntry_8 (by decide +kernel) ?_
  refine g_F2 X (k_X5_isAt E hTX.1 (by omega) (by omega)) gX3_readEntry_X5_isAt rfl (by decide +kernel) (by decide) ob_8 (Nat.le_of_ble_eq_true rfl) dX3_readEntry_10 (fun hz10 => ?_)
  refine g_rg (fun hR10 => ?_)
  refine g_if_eq (tgt := 28) X (by first | exact hR10 _ _ | exact hR0 _ _ | assumption | (unfold InR; omega)) dX3_readEntry_13 (by decide) (fun h13 => ?_) (fun h13 => ?_)
  · skip
    refine g_aload0 X dX3_readEntry_28 ?_
    refine g_F0 X (k_X3_readNumber E hTX (by omega) (by omega)) gX3_readEntry_X3_readNumber rfl (by decide +kernel) (by decide) ob_10 (Nat.le_of_ble_eq_true rfl) dX3_readEntry_29 (fun hz29 => ?_)
    refine g_rg (fun hR29 => ?_)
    exact g_iretF X hr (by first | exact hR29 _ _ | exact hR10 _ _ | exact hR0 _ _ | assumption | (unfold InR; omega)) ⟨by unfold enV; rw [if_neg (by omega)], by unfold enP enR; rw [if_neg (by omega), if_neg (by omega)]⟩ dX3_readEntry_32
  · skip
    refine g_aload0 X dX3_readEntry_16 ?_
    refine g_dup X dX3_readEntry_17 rfl ?_
    refine gf_3_place X i3 (by decide +kernel) dX3_readEntry_18 ?_
    refine g_iconst X dX3_readEntry_21 ?_
    refine g_iadd X dX3_readEntry_22 ?_
    refine gp_3_place X i3 (by decide +kernel) (by first | exact hR10 _ _ | exact hR0 _ _ | assumption | (unfold InR; omega)) dX3_readEntry_23 ?_
    refine g_rg (fun hR23 => ?_)
    refine g_iconst X dX3_readEntry_26 ?_
    exact g_iretF X hr (by first | exact hR23 _ _ | exact hR10 _ _ | exact hR0 _ _ | assumption | (unfold InR; omega)) ⟨by unfold enV; rw [if_pos (by omega)], rdU_eq (by unfold up; rw [if_pos ⟨rfl, rfl⟩]; unfold enP; rw [if_pos (by omega)]) (by unfold up; rw [if_neg (by omega)]; unfold enR; rw [if_pos (by omega)]; exact he) (fun q k h => by unfold up; rw [if_neg (by omega)])⟩ dX3_readEntry_27

set_option maxHeartbeats 4000000 in
set_option maxRecDepth 100000 in
theorem k_X3_step (E0 : EV) {ad : Int → Nat} {σ : St} {c f : Int} (hTX : TXK σ) (hp : 0 ≤ σ 10 0 ∧ σ 10 0 ≤ σ 8 0) (he : σ 10 1 = 0) (hc : 0 ≤ c ∧ c < 65536) (hf : f = 0 ∨ f = 1) : MGE E0 yX3_step wsX3_step 1 22 ad σ [.ref (ad 10), .int (iI c), .int (iI f)] (PW (rdU σ (stP (σ 9) (σ 8 0) (σ 10 0) c f) (stR (σ 9) (σ 8 0) (σ 10 0) c f))) := by
  refine MGE.of (cc := cX3_step) (maxL := 3) (ret := none) (own := RX3) [some (.ref (ad 10)), some (.int (iI c)), some (.int (iI f))] (by decide +kernel) rfl rfl (Nat.le_of_ble_eq_true rfl) rfl rfl (fun E X hr => ?_)
  have i3 : ∀ w ∈ wsX30, w ∈ wsX3_step := by decide +kernel
  refine g_rg (fun hR0 => ?_)
  have h8 := hTX.1
  have hi0 := iA_01 σ (σ 10 0) c
  refine g_aload0 X dX3_step_0 ?_
  refine gf_3_text X i3 (by decide +kernel) dX3_step_1 ?_
  refine g_aload0 X dX3_step_4 ?_
  refine gf_3_place X i3 (by decide +kernel) dX3_step_5 ?_
  refine g_iload1 X dX3_step_8 ?_
  refine g_F2 X (k_X5_isAt E hTX.1 (by omega) (by omega)) gX3_step_X5_isAt rfl (by decide +kernel) (by decide) ob_8 (Nat.le_of_ble_eq_true rfl) dX3_step_9 (fun hz9 => ?_)
  refine g_rg (fun hR9 => ?_)
  refine g_if_ne (tgt := 23) X (by first | exact hR9 _ _ | exact hR0 _ _ | assumption | (unfold InR; omega)) dX3_step_12 (by decide) (fun h12 => ?_) (fun h12 => ?_)
  · skip
    refine g_iload2 X dX3_step_23 ?_
    refine g_if_ne (tgt := 35) X (by first | exact hR9 _ _ | exact hR0 _ _ | assumption | (unfold InR; omega)) dX3_step_24 (by decide) (fun h24 => ?_) (fun h24 => ?_)
    · skip
      refine g_aload0 X dX3_step_35 ?_
      refine g_dup X dX3_step_36 rfl ?_
      refine gf_3_place X i3 (by decide +kernel) dX3_step_37 ?_
      refine g_iconst X dX3_step_40 ?_
      refine g_iadd X dX3_step_41 ?_
      refine gp_3_place X i3 (by decide +kernel) (by first | exact hR9 _ _ | exact hR0 _ _ | assumption | (unfold InR; omega)) dX3_step_42 ?_
      refine g_rg (fun hR42 => ?_)
      exact g_vretW X hr (by
    first
      | exact rdU_eq (by unfold up; rw [if_neg (by omega)]; unfold stP; rw [if_neg (by omega)]) (by unfold up; rw [if_pos ⟨rfl, rfl⟩]; unfold stR; rw [if_neg (by omega)]) (fun q k h => by unfold up; rw [if_neg (by omega)])
      | exact rdU_eq (by unfold up; rw [if_neg (by omega)]; unfold stP; rw [if_neg (by omega)]) (by unfold up; rw [if_pos ⟨rfl, rfl⟩]; unfold stR; rw [if_pos (by omega), if_pos (by omega)]) (fun q k h => by unfold up; rw [if_neg (by omega)])
      | exact rdU_eq (by unfold up; rw [if_pos ⟨rfl, rfl⟩]; unfold stP; rw [if_pos (by omega)]) (by unfold up; rw [if_neg (by omega)]; unfold stR; rw [if_pos (by omega), if_neg (by omega)]; exact he) (fun q k h => by unfold up; rw [if_neg (by omega)])) dX3_step_45
    · skip
      refine g_aload0 X dX3_step_27 ?_
      refine g_iconst X dX3_step_28 ?_
      refine gp_3_reason X i3 (by decide +kernel) (by first | exact hR9 _ _ | exact hR0 _ _ | assumption | (unfold InR; omega)) dX3_step_29 ?_
      refine g_rg (fun hR29 => ?_)
      refine g_goto (tgt := 45) X dX3_step_32 (by decide) ?_
      exact g_vretW X hr (by
    first
      | exact rdU_eq (by unfold up; rw [if_neg (by omega)]; unfold stP; rw [if_neg (by omega)]) (by unfold up; rw [if_pos ⟨rfl, rfl⟩]; unfold stR; rw [if_neg (by omega)]) (fun q k h => by unfold up; rw [if_neg (by omega)])
      | exact rdU_eq (by unfold up; rw [if_neg (by omega)]; unfold stP; rw [if_neg (by omega)]) (by unfold up; rw [if_pos ⟨rfl, rfl⟩]; unfold stR; rw [if_pos (by omega), if_pos (by omega)]) (fun q k h => by unfold up; rw [if_neg (by omega)])
      | exact rdU_eq (by unfold up; rw [if_pos ⟨rfl, rfl⟩]; unfold stP; rw [if_pos (by omega)]) (by unfold up; rw [if_neg (by omega)]; unfold stR; rw [if_pos (by omega), if_neg (by omega)]; exact he) (fun q k h => by unfold up; rw [if_neg (by omega)])) dX3_step_45
  · skip
    refine g_aload0 X dX3_step_15 ?_
    refine g_iconst X dX3_step_16 ?_
    refine gp_3_reason X i3 (by decide +kernel) (by first | exact hR9 _ _ | exact hR0 _ _ | assumption | (unfold InR; omega)) dX3_step_17 ?_
    refine g_rg (fun hR17 => ?_)
    refine g_goto (tgt := 45) X dX3_step_20 (by decide) ?_
    exact g_vretW X hr (by
    first
      | exact rdU_eq (by unfold up; rw [if_neg (by omega)]; unfold stP; rw [if_neg (by omega)]) (by unfold up; rw [if_pos ⟨rfl, rfl⟩]; unfold stR; rw [if_neg (by omega)]) (fun q k h => by unfold up; rw [if_neg (by omega)])
      | exact rdU_eq (by unfold up; rw [if_neg (by omega)]; unfold stP; rw [if_neg (by omega)]) (by unfold up; rw [if_pos ⟨rfl, rfl⟩]; unfold stR; rw [if_pos (by omega), if_pos (by omega)]) (fun q k h => by unfold up; rw [if_neg (by omega)])
      | exact rdU_eq (by unfold up; rw [if_pos ⟨rfl, rfl⟩]; unfold stP; rw [if_pos (by omega)]) (by unfold up; rw [if_neg (by omega)]; unfold stR; rw [if_pos (by omega), if_neg (by omega)]; exact he) (fun q k h => by unfold up; rw [if_neg (by omega)])) dX3_step_45
