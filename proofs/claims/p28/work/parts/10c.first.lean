/-! THE FIRST PLAN: it is one, it costs the least total; sums over it -/
theorem fsP_sp {P : Int → Bool} {n : Int} : ∀ k : Nat, (k : Int) ≤ n → (fsP P n k = -1 ∧ ∀ j, n - k ≤ j → j < n → P j = false) ∨ ((n - k ≤ fsP P n k ∧ fsP P n k < n) ∧ P (fsP P n k) = true ∧ ∀ j, n - k ≤ j → j < fsP P n k → P j = false) := by
  intro k
  induction k with
  | zero => intro _; exact Or.inl ⟨rfl, fun j a b => by omega⟩
  | succ k ih =>
    intro hk
    have ih' := ih (by omega)
    unfold fsP
    by_cases hp : P (n - ((k : Int) + 1)) = true
    · rw [if_pos hp]
      exact Or.inr ⟨by omega, hp, fun j a b => by omega⟩
    · rw [if_neg hp]
      have hf : P (n - ((k : Int) + 1)) = false := by
        cases h : P (n - ((k : Int) + 1)) with
        | false => rfl
        | true => exact absurd h hp
      rcases ih' with ⟨a, b⟩ | ⟨a, b, c⟩
      · refine Or.inl ⟨a, fun j x y => ?_⟩
        by_cases e : j = n - ((k : Int) + 1)
        · rw [e]; exact hf
        · exact b j (by omega) y
      · refine Or.inr ⟨by omega, b, fun j x y => ?_⟩
        by_cases e : j = n - ((k : Int) + 1)
        · rw [e]; exact hf
        · exact c j (by omega) y
theorem f_step {σ : St} (hT : TOK σ 0) {w tk : Int} (hw : 0 ≤ w ∧ w < σ (TB 0) 0) : (fpk σ w tk = -1 ∧ RW σ (AW σ) w tk = σ (TI 0) w + RW σ (AW σ) (w + 1) tk) ∨ (((0 ≤ fpk σ w tk ∧ fpk σ w tk < σ (TB 0) 1) ∧ σ (TR 0 w) (fpk σ w tk) ≠ -1 ∧ bt tk (fpk σ w tk) ≠ 1) ∧ RW σ (AW σ) w tk = σ (TR 0 w) (fpk σ w tk) + RW σ (AW σ) (w + 1) (sb tk (fpk σ w tk))) := by
  have hn := hT.2.1
  have hR := RW_step (σ := σ) (wk := AW σ) (tk := tk) hw
  rw [if_pos (bt_A hT hw)] at hR
  have hb := RW_b hT (AW σ) w tk hw.1
  have h := fsP_sp (P := fun j => decide (tFm σ (AW σ) w j tk = RW σ (AW σ) w tk)) (n := σ (TB 0) 1) (σ (TB 0) 1).toNat (by omega)
  have e : fsP (fun j => decide (tFm σ (AW σ) w j tk = RW σ (AW σ) w tk)) (σ (TB 0) 1) (σ (TB 0) 1).toNat = fpk σ w tk := rfl
  rw [e] at h
  rcases h with ⟨h1, h2⟩ | ⟨h1, h2, -⟩
  · refine Or.inl ⟨h1, ?_⟩
    obtain ⟨nn, hnn⟩ := Int.eq_ofNat_of_zero_le hn.1
    have hM := FI_mat (f := fun j => if σ (TR 0 w) j = -1 ∨ bt tk j = 1 then 1000000 else σ (TR 0 w) j + RW σ (AW σ) (w + 1) (sb tk j)) (b := σ (TI 0) w + RW σ (AW σ) (w + 1) tk) nn
    rw [← hnn, ← hR] at hM
    rcases hM with hM | ⟨j, a, b, hM⟩
    · exact hM
    · have h3 := h2 j (by omega) (by omega)
      have h4 : tFm σ (AW σ) w j tk = RW σ (AW σ) w tk := hM.symm
      rw [decide_eq_true h4] at h3
      cases h3
  · have h3 : tFm σ (AW σ) w (fpk σ w tk) tk = RW σ (AW σ) w tk := of_decide_eq_true h2
    unfold tFm at h3
    by_cases hc : σ (TR 0 w) (fpk σ w tk) = -1 ∨ bt tk (fpk σ w tk) = 1
    · rw [if_pos hc] at h3; omega
    · rw [if_neg hc] at h3
      exact Or.inr ⟨⟨⟨by omega, h1.2⟩, fun g => hc (Or.inl g), fun g => hc (Or.inr g)⟩, h3.symm⟩
theorem tkS_b {σ : St} (hT : TOK σ 0) : ∀ i : Nat, (i : Int) ≤ σ (TB 0) 0 → 0 ≤ tkS σ i ∧ tkS σ i < p2 (σ (TB 0) 1) := by
  intro i
  induction i with
  | zero => intro _; exact zero_lt_p2 hT
  | succ i ih =>
    intro hi
    have ih' := ih (by omega)
    have e : ((i + 1 : Nat) : Int) = (i : Int) + 1 := by omega
    rw [e, tkS_s (by omega)]
    by_cases h : fpk σ i (tkS σ i) = -1
    · rw [if_pos h]; exact ih'
    · rw [if_neg h]
      have hr := fpk_r hT i (tkS σ i)
      exact sb_lt ih' (by omega) (by have := hT.2.1; omega)
theorem tkS_bI {σ : St} (hT : TOK σ 0) {i : Int} (hi : 0 ≤ i ∧ i ≤ σ (TB 0) 0) : 0 ≤ tkS σ i ∧ tkS σ i < p2 (σ (TB 0) 1) := by
  have := tkS_b hT i.toNat (by omega)
  rwa [Int.toNat_of_nonneg hi.1] at this
theorem fP_st {σ : St} (hT : TOK σ 0) {w : Int} (hw : 0 ≤ w ∧ w < σ (TB 0) 0) : (fP σ w = -1 ∧ tkS σ (w + 1) = tkS σ w ∨ ((0 ≤ fP σ w ∧ fP σ w < σ (TB 0) 1) ∧ σ (TR 0 w) (fP σ w) ≠ -1 ∧ bt (tkS σ w) (fP σ w) ≠ 1) ∧ tkS σ (w + 1) = sb (tkS σ w) (fP σ w)) ∧ RW σ (AW σ) w (tkS σ w) = cst σ w (fP σ w) + RW σ (AW σ) (w + 1) (tkS σ (w + 1)) := by
  have h := f_step hT (w := w) (tk := tkS σ w) hw
  have e : fpk σ w (tkS σ w) = fP σ w := rfl
  rw [tkS_s hw.1]
  rw [e] at h ⊢
  rcases h with ⟨h1, h2⟩ | ⟨h1, h2⟩
  · rw [if_pos h1]
    refine ⟨Or.inl ⟨h1, rfl⟩, ?_⟩
    rw [h1, cst_i]; exact h2
  · rw [if_neg (by omega)]
    refine ⟨Or.inr ⟨h1, rfl⟩, ?_⟩
    rw [cst_t h1.1.1]; exact h2
theorem tkS_bt {σ : St} (hT : TOK σ 0) {j : Int} (hj : 0 ≤ j ∧ j < σ (TB 0) 1) : ∀ i : Nat, (i : Int) ≤ σ (TB 0) 0 → (bt (tkS σ i) j = 1 ↔ ∃ v : Int, (0 ≤ v ∧ v < (i : Int)) ∧ fP σ v = j) := by
  intro i
  have hn := hT.2.1
  have hpn := p2_n hn
  induction i with
  | zero =>
    intro _
    have e : tkS σ ((0 : Nat) : Int) = 0 := rfl
    rw [e, bt_0]
    exact ⟨fun h => by omega, fun ⟨v, h, _⟩ => by omega⟩
  | succ i ih =>
    intro hi
    have ih' := ih (by omega)
    have hb := tkS_b hT i (by omega)
    have e : ((i + 1 : Nat) : Int) = (i : Int) + 1 := by omega
    rw [e]
    rcases (fP_st hT (w := (i : Int)) (by omega)).1 with ⟨h1, h2⟩ | ⟨h1, h2⟩
    · rw [h2, ih']
      constructor
      · rintro ⟨v, a, b⟩; exact ⟨v, by omega, b⟩
      · rintro ⟨v, a, b⟩
        refine ⟨v, ?_, b⟩
        by_cases hv : v = i
        · rw [hv] at b; omega
        · omega
    · rw [h2, bt_sb (by omega) (by omega) (by omega)]
      by_cases hc : j = fP σ i
      · rw [if_pos hc]
        exact ⟨fun _ => ⟨i, by omega, hc.symm⟩, fun _ => rfl⟩
      · rw [if_neg hc, ih']
        constructor
        · rintro ⟨v, a, b⟩; exact ⟨v, by omega, b⟩
        · rintro ⟨v, a, b⟩
          refine ⟨v, ?_, b⟩
          by_cases hv : v = i
          · rw [hv] at b; exact absurd b.symm hc
          · omega
theorem fP_pln {σ : St} (hT : TOK σ 0) : PLN σ (fP σ) 0 ∧ ∀ v, 0 ≤ v → v < σ (TB 0) 0 → fP σ v ≠ -2 := by
  have lt : ∀ u v, 0 ≤ u → u < v → v < σ (TB 0) 0 → 0 ≤ fP σ u → fP σ u ≠ fP σ v := fun u v a b c d e => by
    have h1 := (fP_st hT (w := v) ⟨by omega, c⟩).1
    have h2 := fP_r hT u
    rcases h1 with h1 | h1
    · omega
    · refine h1.1.2.2 ?_
      have h3 := tkS_bt hT (j := fP σ v) (by omega) v.toNat (by omega)
      rw [Int.toNat_of_nonneg (by omega)] at h3
      exact h3.mpr ⟨u, ⟨a, b⟩, e⟩
  refine ⟨⟨fun v a b => ?_, fun u v a b c d e f => ?_⟩, fun v a b => ?_⟩
  · rcases (fP_st hT (w := v) ⟨a, b⟩).1 with h | h
    · exact Or.inr (Or.inl h.1)
    · exact Or.inr (Or.inr ⟨h.1.1, h.1.2.1⟩)
  · by_cases h1 : u < v
    · exact absurd f (lt u v a h1 d e)
    · by_cases h2 : v < u
      · exact absurd f.symm (lt v u c h2 b (by omega))
      · omega
  · have := fP_r hT v
    omega
theorem fP_sum {σ : St} (hT : TOK σ 0) : ∀ k : Nat, (k : Int) ≤ σ (TB 0) 0 → sPl σ (fP σ) k = RW σ (AW σ) (σ (TB 0) 0 - k) (tkS σ (σ (TB 0) 0 - k)) := by
  intro k
  induction k with
  | zero =>
    intro _
    rw [show σ (TB 0) 0 - ((0 : Nat) : Int) = σ (TB 0) 0 by omega, RW_end]
    rfl
  | succ k ih =>
    intro hk
    have ih' := ih (by omega)
    have h := (fP_st hT (w := σ (TB 0) 0 - ((k : Int) + 1)) (by omega)).2
    rw [show σ (TB 0) 0 - ((k : Int) + 1) + 1 = σ (TB 0) 0 - (k : Int) by omega] at h
    rw [sPl, ih', show σ (TB 0) 0 - ((k + 1 : Nat) : Int) = σ (TB 0) 0 - ((k : Int) + 1) by omega, h]
theorem fP_S {σ : St} (hT : TOK σ 0) : SS σ (fP σ) = RW σ (AW σ) 0 0 := by
  have hm := hT.1
  have h := fP_sum hT (σ (TB 0) 0).toNat (by omega)
  rw [show σ (TB 0) 0 - ((σ (TB 0) 0).toNat : Int) = 0 by omega] at h
  exact h
/-! what the first plan and the least prices say of each other -/
theorem F_tight {σ : St} (hT : TOK σ 0) {w : Int} (hw : 0 ≤ w ∧ w < σ (TB 0) 0) : wOP σ w = cst σ w (fP σ w) + lp0 σ (fP σ w) := d_tight hT (fP_pln hT).1 (fP_pln hT).2 (fP_S hT) hw
theorem F_free {σ : St} (hT : TOK σ 0) {j : Int} (hj : 0 ≤ j ∧ j < σ (TB 0) 1) (hn : ∀ v, 0 ≤ v → v < σ (TB 0) 0 → fP σ v ≠ j) : lpP σ j = 0 := d_free hT (fP_pln hT).1 (fP_pln hT).2 (fP_S hT) hj hn
/-- the cost of the first plan's first i workers -/
def pC (σ : St) (i : Int) : Int := FI (fun a w => a + cst σ w (fP σ w)) 0 i
theorem pC_s {σ : St} {i : Int} (h : 0 ≤ i) : pC σ (i + 1) = pC σ i + cst σ i (fP σ i) := FI_s h
theorem pC_t {σ : St} (hT : TOK σ 0) : ∀ i : Nat, (i : Int) ≤ σ (TB 0) 0 → pC σ i + RW σ (AW σ) i (tkS σ i) = RW σ (AW σ) 0 0 := by
  intro i
  induction i with
  | zero =>
    intro _
    have e1 : pC σ ((0 : Nat) : Int) = 0 := rfl
    have e2 : tkS σ ((0 : Nat) : Int) = 0 := rfl
    rw [e1, e2]
    show 0 + RW σ (AW σ) 0 0 = _
    omega
  | succ i ih =>
    intro hi
    have ih' := ih (by omega)
    have h := (fP_st hT (w := (i : Int)) (by omega)).2
    have e : ((i + 1 : Nat) : Int) = (i : Int) + 1 := by omega
    rw [e, pC_s (by omega)]
    omega
theorem pC_all {σ : St} (hT : TOK σ 0) : pC σ (σ (TB 0) 0) = RW σ (AW σ) 0 0 := by
  have h := pC_t hT (σ (TB 0) 0).toNat (by have := hT.1; omega)
  rw [Int.toNat_of_nonneg hT.1.1, RW_end] at h
  omega
/-- the sum of f over the tasks of the set tk below i -/
def bS (f : Int → Int) (tk i : Int) : Int := FI (fun a j => if bt tk j = 1 then a + f j else a) 0 i
theorem bS_s {f : Int → Int} {tk i : Int} (h : 0 ≤ i) : bS f tk (i + 1) = if bt tk i = 1 then bS f tk i + f i else bS f tk i := FI_s h
theorem bS_sb {f : Int → Int} {tk t : Int} (htk : 0 ≤ tk ∧ tk < 256) (ht : 0 ≤ t ∧ t < 8) (hb : bt tk t ≠ 1) : ∀ i : Nat, i ≤ 8 → bS f (sb tk t) i = bS f tk i + (if t < i then f t else 0) := by
  intro i
  induction i with
  | zero => intro _; rw [if_neg (by omega)]; rfl
  | succ i ih =>
    intro hi
    have ih' := ih (by omega)
    have e : ((i + 1 : Nat) : Int) = (i : Int) + 1 := by omega
    rw [e, bS_s (by omega), bS_s (by omega), bt_sb htk ht (by omega)]
    by_cases h1 : (i : Int) = t
    · rw [if_pos (by rw [if_pos h1]), h1, if_neg hb, if_pos (by omega)]
      rw [h1, if_neg (by omega)] at ih'
      omega
    · rw [if_neg h1]
      by_cases h2 : bt tk i = 1
      · rw [if_pos h2, if_pos h2, ih']
        by_cases h3 : t < i
        · rw [if_pos h3, if_pos (by omega)]; omega
        · rw [if_neg h3, if_neg (by omega)]; omega
      · rw [if_neg h2, if_neg h2, ih']
        by_cases h3 : t < i
        · rw [if_pos h3, if_pos (by omega)]
        · rw [if_neg h3, if_neg (by omega)]
def pWo (σ : St) (i : Int) : Int := FI (fun a w => a + wOP σ w) 0 i
theorem pWo_s {σ : St} {i : Int} (h : 0 ≤ i) : pWo σ (i + 1) = pWo σ i + wOP σ i := FI_s h
def pLp (σ : St) (i : Int) : Int := FI (fun a j => a + lpP σ j) 0 i
theorem pLp_s {σ : St} {i : Int} (h : 0 ≤ i) : pLp σ (i + 1) = pLp σ i + lpP σ i := FI_s h
theorem pWo_t {σ : St} (hT : TOK σ 0) : ∀ i : Nat, (i : Int) ≤ σ (TB 0) 0 → pWo σ i = pC σ i + bS (lpP σ) (tkS σ i) (σ (TB 0) 1) := by
  intro i
  have hn := hT.2.1
  have hpn := p2_n hn
  induction i with
  | zero =>
    intro _
    have e2 : tkS σ ((0 : Nat) : Int) = 0 := rfl
    have e3 : ∀ k : Nat, bS (lpP σ) 0 k = 0 := by
      intro k
      induction k with
      | zero => rfl
      | succ k ih =>
        have e : ((k + 1 : Nat) : Int) = (k : Int) + 1 := by omega
        rw [e, bS_s (by omega), bt_0, if_neg (by omega)]
        exact ih
    have e4 := e3 (σ (TB 0) 1).toNat
    rw [Int.toNat_of_nonneg hn.1] at e4
    rw [e2, e4]
    rfl
  | succ i ih =>
    intro hi
    have ih' := ih (by omega)
    have hb := tkS_b hT i (by omega)
    have ht := F_tight hT (w := (i : Int)) (by omega)
    have e : ((i + 1 : Nat) : Int) = (i : Int) + 1 := by omega
    rw [e, pC_s (by omega), pWo_s (by omega), ih', ht]
    rcases (fP_st hT (w := (i : Int)) (by omega)).1 with ⟨h1, h2⟩ | ⟨h1, h2⟩
    · have e5 : lp0 σ (fP σ i) = 0 := by rw [h1]; exact if_neg (by omega)
      rw [h2, e5]
      omega
    · have e5 : lp0 σ (fP σ i) = lpP σ (fP σ i) := if_pos h1.1.1
      have h3 := bS_sb (f := lpP σ) (tk := tkS σ i) (t := fP σ i) (by omega) (by omega) h1.2.2 (σ (TB 0) 1).toNat (by omega)
      rw [Int.toNat_of_nonneg hn.1, if_pos (by omega)] at h3
      rw [h2, h3, e5]
      omega
theorem bS_all {σ : St} (hT : TOK σ 0) : ∀ i : Nat, (i : Int) ≤ σ (TB 0) 1 → bS (lpP σ) (tkS σ (σ (TB 0) 0)) i = pLp σ i := by
  intro i
  induction i with
  | zero => intro _; rfl
  | succ i ih =>
    intro hi
    have ih' := ih (by omega)
    have e : ((i + 1 : Nat) : Int) = (i : Int) + 1 := by omega
    rw [e, bS_s (by omega), pLp_s (by omega), ih']
    by_cases h : bt (tkS σ (σ (TB 0) 0)) i = 1
    · rw [if_pos h]
    · rw [if_neg h]
      have h2 := tkS_bt hT (j := (i : Int)) (by omega) (σ (TB 0) 0).toNat (by have := hT.1; omega)
      rw [Int.toNat_of_nonneg hT.1.1] at h2
      have h3 := F_free hT (j := (i : Int)) (by omega) (fun v a b c => h (h2.mpr ⟨v, ⟨a, b⟩, c⟩))
      omega
/-- the proof by prices comes to the least total -/
theorem d_proof {σ : St} (hT : TOK σ 0) : pWo σ (σ (TB 0) 0) - pLp σ (σ (TB 0) 1) = RW σ (AW σ) 0 0 := by
  have h1 := pWo_t hT (σ (TB 0) 0).toNat (by have := hT.1; omega)
  have h2 := bS_all hT (σ (TB 0) 1).toNat (by have := hT.2.1; omega)
  have h3 := pC_all hT
  rw [Int.toNat_of_nonneg hT.1.1] at h1
  rw [Int.toNat_of_nonneg hT.2.1.1] at h2
  omega
theorem sWP_p (σ : St) : sWP σ = pWo σ (σ (TB 0) 0) := rfl
theorem sLP_p (σ : St) : sLP σ = pLp σ (σ (TB 0) 1) := rfl
theorem d_pf {σ : St} (hT : TOK σ 0) : sWP σ - sLP σ = RW σ (AW σ) 0 0 := d_proof hT
/-- who has a task -/
theorem wOf_at {σ : St} (hT : TOK σ 0) {w : Int} (hw : 0 ≤ w ∧ w < σ (TB 0) 0) (h : 0 ≤ fP σ w) : wOf σ (fP σ w) = w := by
  have hm := hT.1
  have h1 := fsP_sp (P := fun v => decide (fP σ v = fP σ w)) (n := σ (TB 0) 0) (σ (TB 0) 0).toNat (by omega)
  have e : fsP (fun v => decide (fP σ v = fP σ w)) (σ (TB 0) 0) (σ (TB 0) 0).toNat = wOf σ (fP σ w) := rfl
  rw [e] at h1
  rcases h1 with ⟨a, b⟩ | ⟨a, b, -⟩
  · have := b w (by omega) (by omega)
    rw [decide_eq_true rfl] at this
    cases this
  · have h2 : fP σ (wOf σ (fP σ w)) = fP σ w := of_decide_eq_true b
    exact (fP_pln hT).1.2 _ _ (by omega) (by omega) hw.1 hw.2 (by omega) h2
theorem wOf_no {σ : St} (hT : TOK σ 0) {j : Int} (hn : ∀ v, 0 ≤ v → v < σ (TB 0) 0 → fP σ v ≠ j) : wOf σ j = -1 := by
  have hm := hT.1
  have h1 := fsP_sp (P := fun v => decide (fP σ v = j)) (n := σ (TB 0) 0) (σ (TB 0) 0).toNat (by omega)
  have e : fsP (fun v => decide (fP σ v = j)) (σ (TB 0) 0) (σ (TB 0) 0).toNat = wOf σ j := rfl
  rw [e] at h1
  rcases h1 with ⟨a, b⟩ | ⟨a, b, -⟩
  · exact a
  · exact absurd (of_decide_eq_true b) (hn _ (by omega) (by omega))
/-- fewer pairs are no cheaper -/
theorem RW_mono {σ σ' : St} (hT : TOK σ 0) (hT' : TOK σ' 0) (e0 : σ' (TB 0) 0 = σ (TB 0) 0) (e1 : σ' (TB 0) 1 = σ (TB 0) 1) (ei : ∀ w, 0 ≤ w → w < σ (TB 0) 0 → σ' (TI 0) w = σ (TI 0) w) (ec : ∀ w j, 0 ≤ w → w < σ (TB 0) 0 → 0 ≤ j → j < σ (TB 0) 1 → σ' (TR 0 w) j ≠ -1 → σ (TR 0 w) j = σ' (TR 0 w) j) : RW σ (AW σ) 0 0 ≤ RW σ' (AW σ') 0 0 := by
  obtain ⟨q, g1, g2, -, g4⟩ := ex_all hT' (zero_lt_p2 hT')
  have hok : ∀ v, 0 ≤ v → v < σ (TB 0) 0 → okT σ v (q v) := fun v a b => by
    rcases g1.1 v a (by omega) with h | h | ⟨h, h2⟩
    · exact Or.inl h
    · exact Or.inr (Or.inl h)
    · exact Or.inr (Or.inr ⟨by omega, by rw [ec v _ a b h.1 (by omega) h2]; exact h2⟩)
  have h1 := low_all hT (q := q) ⟨hok, fun u v a b c d e f => g1.2 u v a (by omega) c (by omega) e f⟩ (fun v a b => g2 v a (by omega))
  have h2 : ∀ k : Nat, (k : Int) ≤ σ (TB 0) 0 → sPl σ' q k = sPl σ q k := by
    intro k
    induction k with
    | zero => intro _; rfl
    | succ k ih =>
      intro hk
      have ih' := ih (by omega)
      rw [sPl, sPl, ih', e0]
      have h3 : cst σ' (σ (TB 0) 0 - ((k : Int) + 1)) (q (σ (TB 0) 0 - ((k : Int) + 1))) = cst σ (σ (TB 0) 0 - ((k : Int) + 1)) (q (σ (TB 0) 0 - ((k : Int) + 1))) := by
        have h4 := g1.1 (σ (TB 0) 0 - ((k : Int) + 1)) (by omega) (by omega)
        generalize q (σ (TB 0) 0 - ((k : Int) + 1)) = t at h4 ⊢
        rcases h4 with h | h | ⟨h, h2⟩
        · rw [h, cst_n, cst_n]
        · rw [h, cst_i, cst_i]; exact ei _ (by omega) (by omega)
        · rw [cst_t h.1, cst_t h.1]; exact (ec _ _ (by omega) (by omega) h.1 (by omega) h2).symm
      rw [h3]
  have h3 := h2 (σ (TB 0) 0).toNat (by have := hT.1; omega)
  unfold SS at h1 g4
  rw [e0] at g4
  omega
