/-! PLANS AND THEIR COSTS: least totals as least costs of plans; two plans that change workers -/
theorem FI_mle {f : Int → Int} {b : Int} : ∀ n : Nat, FI (fun a j => min a (f j)) b n ≤ b ∧ ∀ j : Int, 0 ≤ j → j < n → FI (fun a j => min a (f j)) b n ≤ f j := by
  intro n
  induction n with
  | zero => exact ⟨Int.le_refl _, fun j a b => by omega⟩
  | succ n ih =>
    have e : ((n + 1 : Nat) : Int) = (n : Int) + 1 := by omega
    rw [e, FI_s (by omega)]
    refine ⟨by omega, fun j h0 hj => ?_⟩
    by_cases h : j = n
    · rw [h]; omega
    · have := ih.2 j h0 (by omega); omega
theorem FI_mat {f : Int → Int} {b : Int} : ∀ n : Nat, FI (fun a j => min a (f j)) b n = b ∨ ∃ j : Int, 0 ≤ j ∧ j < n ∧ FI (fun a j => min a (f j)) b n = f j := by
  intro n
  induction n with
  | zero => exact Or.inl rfl
  | succ n ih =>
    have e : ((n + 1 : Nat) : Int) = (n : Int) + 1 := by omega
    rw [e, FI_s (by omega)]
    by_cases h : FI (fun a j => min a (f j)) b n ≤ f n
    · rw [Int.min_eq_left h]
      rcases ih with h1 | ⟨j, h1, h2, h3⟩
      · exact Or.inl h1
      · exact Or.inr ⟨j, h1, by omega, h3⟩
    · rw [Int.min_eq_right (by omega)]
      exact Or.inr ⟨n, by omega, by omega, rfl⟩
theorem FI_pc {P : Int → Prop} [DecidablePred P] {f : Int → Int} {b : Int} : ∀ n : Nat, FI (fun a j => if P j then a else min a (f j)) b n ≤ b ∧ (∀ j : Int, 0 ≤ j → j < n → ¬ P j → FI (fun a j => if P j then a else min a (f j)) b n ≤ f j) ∧ (FI (fun a j => if P j then a else min a (f j)) b n = b ∨ ∃ j : Int, 0 ≤ j ∧ j < n ∧ ¬ P j ∧ FI (fun a j => if P j then a else min a (f j)) b n = f j) := by
  intro n
  induction n with
  | zero => exact ⟨Int.le_refl _, fun j a b => by omega, Or.inl rfl⟩
  | succ n ih =>
    obtain ⟨i1, i2, i3⟩ := ih
    have e : ((n + 1 : Nat) : Int) = (n : Int) + 1 := by omega
    rw [e, FI_s (by omega)]
    by_cases hp : P n
    · rw [if_pos hp]
      refine ⟨i1, fun j a b c => ?_, ?_⟩
      · by_cases hj : j = n
        · rw [hj] at c; exact absurd hp c
        · exact i2 j a (by omega) c
      · rcases i3 with k | ⟨j, a, b, c, k⟩
        · exact Or.inl k
        · exact Or.inr ⟨j, a, by omega, c, k⟩
    · rw [if_neg hp]
      refine ⟨by omega, fun j a b c => ?_, ?_⟩
      · by_cases hj : j = n
        · rw [hj]; omega
        · have := i2 j a (by omega) c; omega
      · by_cases hm : FI (fun a j => if P j then a else min a (f j)) b n ≤ f n
        · rw [Int.min_eq_left hm]
          rcases i3 with k | ⟨j, a, b, c, k⟩
          · exact Or.inl k
          · exact Or.inr ⟨j, a, by omega, c, k⟩
        · rw [Int.min_eq_right (by omega)]
          exact Or.inr ⟨n, by omega, by omega, hp, rfl⟩
theorem FI_px {P : Int → Prop} [DecidablePred P] {f : Int → Int} {b : Int} : ∀ n : Nat, b ≤ FI (fun a j => if P j then a else max a (f j)) b n ∧ (∀ j : Int, 0 ≤ j → j < n → ¬ P j → f j ≤ FI (fun a j => if P j then a else max a (f j)) b n) ∧ (FI (fun a j => if P j then a else max a (f j)) b n = b ∨ ∃ j : Int, 0 ≤ j ∧ j < n ∧ ¬ P j ∧ FI (fun a j => if P j then a else max a (f j)) b n = f j) := by
  intro n
  induction n with
  | zero => exact ⟨Int.le_refl _, fun j a b => by omega, Or.inl rfl⟩
  | succ n ih =>
    obtain ⟨i1, i2, i3⟩ := ih
    have e : ((n + 1 : Nat) : Int) = (n : Int) + 1 := by omega
    rw [e, FI_s (by omega)]
    by_cases hp : P n
    · rw [if_pos hp]
      refine ⟨i1, fun j a b c => ?_, ?_⟩
      · by_cases hj : j = n
        · rw [hj] at c; exact absurd hp c
        · exact i2 j a (by omega) c
      · rcases i3 with k | ⟨j, a, b, c, k⟩
        · exact Or.inl k
        · exact Or.inr ⟨j, a, by omega, c, k⟩
    · rw [if_neg hp]
      refine ⟨by omega, fun j a b c => ?_, ?_⟩
      · by_cases hj : j = n
        · rw [hj]; omega
        · have := i2 j a (by omega) c; omega
      · by_cases hm : f n ≤ FI (fun a j => if P j then a else max a (f j)) b n
        · rw [Int.max_eq_left hm]
          rcases i3 with k | ⟨j, a, b, c, k⟩
          · exact Or.inl k
          · exact Or.inr ⟨j, a, by omega, c, k⟩
        · rw [Int.max_eq_right (by omega)]
          exact Or.inr ⟨n, by omega, by omega, hp, rfl⟩

/-- what a worker costs who has the task t; -1: idle; -2: isn't there -/
def cst (σ : St) (v t : Int) : Int := if t = -2 then 0 else if t = -1 then σ (TI 0) v else σ (TR 0 v) t
/-- the cost of the plan q of the last k workers -/
def sPl (σ : St) (q : Int → Int) : Nat → Int
  | 0 => 0
  | k + 1 => cst σ (σ (TB 0) 0 - ((k : Int) + 1)) (q (σ (TB 0) 0 - ((k : Int) + 1))) + sPl σ q k
def okT (σ : St) (v t : Int) : Prop := t = -2 ∨ t = -1 ∨ ((0 ≤ t ∧ t < σ (TB 0) 1) ∧ σ (TR 0 v) t ≠ -1)
/-- q is a plan of the workers from w on -/
def PLN (σ : St) (q : Int → Int) (w : Int) : Prop := (∀ v, w ≤ v → v < σ (TB 0) 0 → okT σ v (q v)) ∧ ∀ u v, w ≤ u → u < σ (TB 0) 0 → w ≤ v → v < σ (TB 0) 0 → 0 ≤ q u → q u = q v → u = v
def PTH (σ : St) (q : Int → Int) (wk w : Int) : Prop := ∀ v, w ≤ v → v < σ (TB 0) 0 → (q v = -2 ↔ bt wk v ≠ 1)
def PTK (σ : St) (q : Int → Int) (tk w : Int) : Prop := ∀ v, w ≤ v → v < σ (TB 0) 0 → 0 ≤ q v → bt tk (q v) ≠ 1
def SS (σ : St) (q : Int → Int) : Int := sPl σ q (σ (TB 0) 0).toNat
theorem cst_n {σ : St} {v : Int} : cst σ v (-2) = 0 := by unfold cst; rw [if_pos rfl]
theorem cst_i {σ : St} {v : Int} : cst σ v (-1) = σ (TI 0) v := by unfold cst; rw [if_neg (by omega), if_pos rfl]
theorem cst_t {σ : St} {v t : Int} (h : 0 ≤ t) : cst σ v t = σ (TR 0 v) t := by unfold cst; rw [if_neg (by omega), if_neg (by omega)]
theorem sPl_add {σ : St} {q1 q2 r1 r2 : Int → Int} : ∀ k : Nat, (k : Int) ≤ σ (TB 0) 0 → (∀ v, σ (TB 0) 0 - k ≤ v → v < σ (TB 0) 0 → cst σ v (r1 v) + cst σ v (r2 v) = cst σ v (q1 v) + cst σ v (q2 v)) → sPl σ r1 k + sPl σ r2 k = sPl σ q1 k + sPl σ q2 k := by
  intro k
  induction k with
  | zero => intro _ _; rfl
  | succ k ih =>
    intro hk h
    have h1 := ih (by omega) (fun v a b => h v (by omega) b)
    have h2 := h (σ (TB 0) 0 - ((k : Int) + 1)) (by omega) (by omega)
    rw [sPl, sPl, sPl, sPl]
    omega
theorem sPl_one {σ : St} {q r : Int → Int} {w : Int} : ∀ k : Nat, (k : Int) ≤ σ (TB 0) 0 → (∀ v, v ≠ w → r v = q v) → w < σ (TB 0) 0 → sPl σ r k = sPl σ q k + (if σ (TB 0) 0 - k ≤ w then cst σ w (r w) - cst σ w (q w) else 0) := by
  intro k
  induction k with
  | zero => intro _ _ hw; rw [if_neg (by omega)]; rfl
  | succ k ih =>
    intro hk h hw
    have h1 := ih (by omega) h hw
    rw [sPl, sPl, h1]
    by_cases c1 : σ (TB 0) 0 - ((k : Int) + 1) = w
    · rw [c1, if_neg (by omega), if_pos (by omega)]
      omega
    · rw [h _ c1]
      by_cases c2 : σ (TB 0) 0 - (k : Int) ≤ w
      · rw [if_pos c2, if_pos (by omega)]; omega
      · rw [if_neg c2, if_neg (by omega)]; omega
theorem RW_low {σ : St} (hT : TOK σ 0) {wk : Int} {q : Int → Int} : ∀ k : Nat, (k : Int) ≤ σ (TB 0) 0 → ∀ tk, 0 ≤ tk ∧ tk < p2 (σ (TB 0) 1) → PLN σ q (σ (TB 0) 0 - k) → PTH σ q wk (σ (TB 0) 0 - k) → PTK σ q tk (σ (TB 0) 0 - k) → RW σ wk (σ (TB 0) 0 - k) tk ≤ sPl σ q k := by
  intro k
  have hn := hT.2.1
  have hpn := p2_n hn
  induction k with
  | zero =>
    intro _ tk _ _ _ _
    rw [show σ (TB 0) 0 - ((0 : Nat) : Int) = σ (TB 0) 0 by omega, RW_end]
    exact Int.le_refl _
  | succ k ih =>
    intro hk tk htk hp ht hx
    have hm := hT.1
    obtain ⟨w, hw⟩ : ∃ w, w = σ (TB 0) 0 - ((k : Int) + 1) := ⟨_, rfl⟩
    have e1 : σ (TB 0) 0 - ((k + 1 : Nat) : Int) = w := by omega
    have e2 : σ (TB 0) 0 - (k : Int) = w + 1 := by omega
    rw [e1] at hp ht hx ⊢
    rw [e2] at ih
    rw [sPl, ← hw, RW_step (by omega)]
    have hp2 : PLN σ q (w + 1) := ⟨fun v a b => hp.1 v (by omega) b, fun u v a b c d => hp.2 u v (by omega) b (by omega) d⟩
    have ht2 : PTH σ q wk (w + 1) := fun v a b => ht v (by omega) b
    have hx2 : PTK σ q tk (w + 1) := fun v a b => hx v (by omega) b
    have hq := hp.1 w (by omega) (by omega)
    have hq2 := ht w (by omega) (by omega)
    by_cases hb : bt wk w = 1
    · rw [if_pos hb]
      have hne : q w ≠ -2 := fun e => (hq2.mp e) hb
      obtain ⟨nn, hnn⟩ := Int.eq_ofNat_of_zero_le hn.1
      have hM := FI_mle (f := fun j => if σ (TR 0 w) j = -1 ∨ bt tk j = 1 then 1000000 else σ (TR 0 w) j + RW σ wk (w + 1) (sb tk j)) (b := σ (TI 0) w + RW σ wk (w + 1) tk) nn
      rw [← hnn] at hM
      rcases hq with h0 | h0 | ⟨h0, h1⟩
      · exact absurd h0 hne
      · have := ih (by omega) tk htk hp2 ht2 hx2
        have := hM.1
        rw [h0, cst_i]
        omega
      · have hbt := hx w (by omega) (by omega) h0.1
        have h3 := hM.2 (q w) h0.1 h0.2
        have h3' : FI (fun a j => min a (if σ (TR 0 w) j = -1 ∨ bt tk j = 1 then 1000000 else σ (TR 0 w) j + RW σ wk (w + 1) (sb tk j))) (σ (TI 0) w + RW σ wk (w + 1) tk) (σ (TB 0) 1) ≤ (if σ (TR 0 w) (q w) = -1 ∨ bt tk (q w) = 1 then 1000000 else σ (TR 0 w) (q w) + RW σ wk (w + 1) (sb tk (q w))) := h3
        rw [if_neg (fun h => h.elim h1 hbt)] at h3'
        have h4 := ih (by omega) (sb tk (q w)) (sb_lt htk h0 (by omega)) hp2 ht2 (fun v a b c => by
          have h5 := (hp.1 v (by omega) b)
          have h6 : q v < σ (TB 0) 1 := by
            rcases h5 with h5 | h5 | h5
            · omega
            · omega
            · exact h5.1.2
          rw [bt_sb (by omega) (by omega) (by omega)]
          have h7 : ¬ q v = q w := fun e => by
            have := hp.2 v w (by omega) b (by omega) (by omega) c e
            omega
          rw [if_neg h7]
          exact hx v (by omega) b c)
        rw [cst_t h0.1]
        omega
    · rw [if_neg hb]
      have h0 : q w = -2 := hq2.mpr hb
      have := ih (by omega) tk htk hp2 ht2 hx2
      rw [h0, cst_n]
      omega
theorem sPl_cg {σ : St} {q r : Int → Int} : ∀ k : Nat, (k : Int) ≤ σ (TB 0) 0 → (∀ v, σ (TB 0) 0 - k ≤ v → v < σ (TB 0) 0 → r v = q v) → sPl σ r k = sPl σ q k := by
  intro k
  induction k with
  | zero => intro _ _; rfl
  | succ k ih =>
    intro hk h
    rw [sPl, sPl, ih (by omega) (fun v a b => h v (by omega) b), h _ (by omega) (by omega)]
theorem RW_ex {σ : St} (hT : TOK σ 0) {wk : Int} : ∀ k : Nat, (k : Int) ≤ σ (TB 0) 0 → ∀ tk, 0 ≤ tk ∧ tk < p2 (σ (TB 0) 1) → ∃ q : Int → Int, PLN σ q (σ (TB 0) 0 - k) ∧ PTH σ q wk (σ (TB 0) 0 - k) ∧ PTK σ q tk (σ (TB 0) 0 - k) ∧ sPl σ q k = RW σ wk (σ (TB 0) 0 - k) tk := by
  intro k
  have hn := hT.2.1
  have hpn := p2_n hn
  induction k with
  | zero =>
    intro _ tk _
    refine ⟨fun _ => -2, ⟨fun v a b => by omega, fun u v a b => by omega⟩, fun v a b => by omega, fun v a b => by omega, ?_⟩
    rw [show σ (TB 0) 0 - ((0 : Nat) : Int) = σ (TB 0) 0 by omega, RW_end]
    rfl
  | succ k ih =>
    intro hk tk htk
    have hm := hT.1
    obtain ⟨w, hw⟩ : ∃ w, w = σ (TB 0) 0 - ((k : Int) + 1) := ⟨_, rfl⟩
    have e1 : σ (TB 0) 0 - ((k + 1 : Nat) : Int) = w := by omega
    have e2 : σ (TB 0) 0 - (k : Int) = w + 1 := by omega
    rw [e1]
    rw [e2] at ih
    -- a plan of the rest, and what the worker w has
    have key : ∀ (x : Int) (tk2 : Int), okT σ w x → (x = -2 ↔ bt wk w ≠ 1) → (0 ≤ x → bt tk x ≠ 1) → (0 ≤ tk2 ∧ tk2 < p2 (σ (TB 0) 1)) → (∀ j, 0 ≤ j → j < σ (TB 0) 1 → bt tk2 j ≠ 1 → bt tk j ≠ 1 ∧ j ≠ x) → RW σ wk w tk = cst σ w x + RW σ wk (w + 1) tk2 → ∃ q : Int → Int, PLN σ q w ∧ PTH σ q wk w ∧ PTK σ q tk w ∧ sPl σ q (k + 1) = RW σ wk w tk := by
      intro x tk2 hx1 hx2 hx3 ht2 hj hR
      obtain ⟨q, g1, g2, g3, g4⟩ := ih (by omega) tk2 ht2
      have hq : ∀ v, v ≠ w → (fun v => if v = w then x else q v) v = q v := fun v h => if_neg h
      have hqw : (fun v => if v = w then x else q v) w = x := if_pos rfl
      generalize hr : (fun v => if v = w then x else q v) = r at hq hqw
      have hlt : ∀ v, w + 1 ≤ v → v < σ (TB 0) 0 → 0 ≤ q v → q v < σ (TB 0) 1 := fun v a b c => by
        rcases g1.1 v a b with h | h | h
        · omega
        · omega
        · exact h.1.2
      refine ⟨r, ⟨fun v a b => ?_, fun u v a b c d e f => ?_⟩, fun v a b => ?_, fun v a b c => ?_, ?_⟩
      · by_cases h : v = w
        · rw [h, hqw]; exact hx1
        · rw [hq v h]; exact g1.1 v (by omega) b
      · by_cases h : u = w
        · by_cases h2 : v = w
          · omega
          · rw [h, hqw] at e f
            rw [hq v h2] at f
            have h3 := g3 v (by omega) d (by omega)
            exact absurd f.symm (hj (q v) (by omega) (hlt v (by omega) d (by omega)) h3).2
        · by_cases h2 : v = w
          · rw [hq u h] at e f
            rw [h2, hqw] at f
            have h3 := g3 u (by omega) b e
            exact absurd f (hj (q u) e (hlt u (by omega) b e) h3).2
          · rw [hq u h] at e f
            rw [hq v h2] at f
            exact g1.2 u v (by omega) b (by omega) d e f
      · by_cases h : v = w
        · rw [h, hqw]; exact hx2
        · rw [hq v h]; exact g2 v (by omega) b
      · by_cases h : v = w
        · rw [h, hqw] at c ⊢; exact hx3 c
        · rw [hq v h] at c ⊢
          exact (hj (q v) c (hlt v (by omega) b c) (g3 v (by omega) b c)).1
      · rw [sPl, ← hw, hqw, sPl_cg k (by omega) (fun v a b => hq v (by omega)), g4, hR]
    have hR := RW_step (σ := σ) (wk := wk) (tk := tk) (w := w) (by omega)
    have hb9 := RW_b hT wk w tk (by omega)
    by_cases hb : bt wk w = 1
    · rw [if_pos hb] at hR
      obtain ⟨nn, hnn⟩ := Int.eq_ofNat_of_zero_le hn.1
      have hM := FI_mat (f := fun j => if σ (TR 0 w) j = -1 ∨ bt tk j = 1 then 1000000 else σ (TR 0 w) j + RW σ wk (w + 1) (sb tk j)) (b := σ (TI 0) w + RW σ wk (w + 1) tk) nn
      rw [← hnn, ← hR] at hM
      rcases hM with h | ⟨j, h1, h2, h⟩
      · exact key (-1) tk (Or.inr (Or.inl rfl)) (by omega) (by omega) htk (fun j a b c => ⟨c, by omega⟩) (by rw [cst_i]; exact h)
      · have h' : RW σ wk w tk = if σ (TR 0 w) j = -1 ∨ bt tk j = 1 then 1000000 else σ (TR 0 w) j + RW σ wk (w + 1) (sb tk j) := h
        by_cases hc : σ (TR 0 w) j = -1 ∨ bt tk j = 1
        · rw [if_pos hc] at h'; omega
        · rw [if_neg hc] at h'
          refine key j (sb tk j) (Or.inr (Or.inr ⟨⟨h1, by omega⟩, fun e => hc (Or.inl e)⟩)) (by omega) (fun _ e => hc (Or.inr e)) (sb_lt htk ⟨h1, by omega⟩ (by omega)) (fun i a b c => ?_) (by rw [cst_t h1]; exact h')
          rw [bt_sb (by omega) (by omega) (by omega)] at c
          by_cases hi : i = j
          · rw [if_pos hi] at c; exact absurd rfl c
          · rw [if_neg hi] at c; exact ⟨c, hi⟩
    · rw [if_neg hb] at hR
      refine key (-2) tk (Or.inl rfl) ⟨fun _ => hb, fun _ => rfl⟩ (by omega) htk (fun j a b c => ⟨c, by omega⟩) (by rw [cst_n]; omega)
/-- two plans that change their workers where the one goes on from the other -/
def rch (σ : St) (q1 q2 : Int → Int) (s : Int) : Nat → Int → Prop
  | 0, v => v = s
  | k + 1, v => ∃ u, rch σ q1 q2 s k u ∧ (0 ≤ v ∧ v < σ (TB 0) 0) ∧ 0 ≤ q1 u ∧ q2 v = q1 u
theorem swp {σ : St} {q1 q2 : Int → Int} (h1 : PLN σ q1 0) (h2 : PLN σ q2 0) {s j : Int} (hs : 0 ≤ s ∧ s < σ (TB 0) 0) (hq : q2 s = j) (hj : 0 ≤ j) (hn : ∀ v, 0 ≤ v → v < σ (TB 0) 0 → q1 v ≠ j) : ∃ (C : Int → Prop) (r1 r2 : Int → Int), PLN σ r1 0 ∧ PLN σ r2 0 ∧ (∀ v, 0 ≤ v → v < σ (TB 0) 0 → r2 v ≠ j) ∧ (∀ v, C v → 0 ≤ q2 v ∧ r1 v = q2 v ∧ r2 v = q1 v) ∧ (∀ v, ¬ C v → r1 v = q1 v ∧ r2 v = q2 v) ∧ SS σ r1 + SS σ r2 = SS σ q1 + SS σ q2 := by
  obtain ⟨C, hC⟩ : ∃ C : Int → Prop, C = fun v => ∃ k, rch σ q1 q2 s k v := ⟨_, rfl⟩
  have c0 : C s := by rw [hC]; exact ⟨0, rfl⟩
  have cin : ∀ v, C v → 0 ≤ v ∧ v < σ (TB 0) 0 := by
    rw [hC]
    rintro v ⟨k, hk⟩
    cases k with
    | zero => have e : v = s := hk; rw [e]; exact hs
    | succ k => obtain ⟨u, -, h, -⟩ := hk; exact h
  have cpr : ∀ v, C v → v = s ∨ ∃ u, C u ∧ 0 ≤ q1 u ∧ q2 v = q1 u := by
    rw [hC]
    rintro v ⟨k, hk⟩
    cases k with
    | zero => exact Or.inl hk
    | succ k => obtain ⟨u, a, -, b, c⟩ := hk; exact Or.inr ⟨u, ⟨k, a⟩, b, c⟩
  have cst' : ∀ u v, C u → (0 ≤ v ∧ v < σ (TB 0) 0) → 0 ≤ q1 u → q2 v = q1 u → C v := by
    rw [hC]
    rintro u v ⟨k, hk⟩ a b c
    exact ⟨k + 1, u, hk, a, b, c⟩
  have cq2 : ∀ v, C v → 0 ≤ q2 v := fun v h => by
    rcases cpr v h with e | ⟨u, -, b, c⟩
    · rw [e]; omega
    · omega
  clear hC
  obtain ⟨r1, hr1⟩ : ∃ r1 : Int → Int, r1 = fun v => @ite _ (C v) (Classical.propDecidable _) (q2 v) (q1 v) := ⟨_, rfl⟩
  obtain ⟨r2, hr2⟩ : ∃ r2 : Int → Int, r2 = fun v => @ite _ (C v) (Classical.propDecidable _) (q1 v) (q2 v) := ⟨_, rfl⟩
  have p1 : ∀ v, C v → r1 v = q2 v := fun v h => by rw [hr1]; exact @if_pos _ (Classical.propDecidable _) h _ _ _
  have p2' : ∀ v, C v → r2 v = q1 v := fun v h => by rw [hr2]; exact @if_pos _ (Classical.propDecidable _) h _ _ _
  have n1 : ∀ v, ¬ C v → r1 v = q1 v := fun v h => by rw [hr1]; exact @if_neg _ (Classical.propDecidable _) h _ _ _
  have n2 : ∀ v, ¬ C v → r2 v = q2 v := fun v h => by rw [hr2]; exact @if_neg _ (Classical.propDecidable _) h _ _ _
  clear hr1 hr2
  -- a task of the one inside isn't one of the other's outside
  have x1 : ∀ u v, C u → ¬ C v → (0 ≤ v ∧ v < σ (TB 0) 0) → q2 u ≠ q1 v := fun u v hu hv a e => by
    rcases cpr u hu with e1 | ⟨u', b1, b2, b3⟩
    · rw [e1, hq] at e
      exact hn v a.1 a.2 e.symm
    · have i1 := cin u' b1
      have := h1.2 u' v i1.1 i1.2 a.1 a.2 b2 (by omega)
      rw [this] at b1
      exact hv b1
  have x2 : ∀ u v, C u → ¬ C v → (0 ≤ v ∧ v < σ (TB 0) 0) → 0 ≤ q1 u → q1 u ≠ q2 v := fun u v hu hv a b e => hv (cst' u v hu a b e.symm)
  refine ⟨C, r1, r2, ⟨fun v a b => ?_, fun u v a b c d e f => ?_⟩, ⟨fun v a b => ?_, fun u v a b c d e f => ?_⟩, fun v a b e => ?_, fun v h => ⟨cq2 v h, p1 v h, p2' v h⟩, fun v h => ⟨n1 v h, n2 v h⟩, ?_⟩
  · by_cases h : C v
    · rw [p1 v h]; exact h2.1 v a b
    · rw [n1 v h]; exact h1.1 v a b
  · by_cases hu : C u
    · by_cases hv : C v
      · rw [p1 u hu] at e f; rw [p1 v hv] at f; exact h2.2 u v a b c d e f
      · rw [p1 u hu] at e f; rw [n1 v hv] at f; exact absurd f (x1 u v hu hv ⟨c, d⟩)
    · by_cases hv : C v
      · rw [n1 u hu] at e f; rw [p1 v hv] at f; exact absurd f.symm (x1 v u hv hu ⟨a, b⟩)
      · rw [n1 u hu] at e f; rw [n1 v hv] at f; exact h1.2 u v a b c d e f
  · by_cases h : C v
    · rw [p2' v h]; exact h1.1 v a b
    · rw [n2 v h]; exact h2.1 v a b
  · by_cases hu : C u
    · by_cases hv : C v
      · rw [p2' u hu] at e f; rw [p2' v hv] at f; exact h1.2 u v a b c d e f
      · rw [p2' u hu] at e f; rw [n2 v hv] at f; exact absurd f (x2 u v hu hv ⟨c, d⟩ e)
    · by_cases hv : C v
      · rw [n2 u hu] at e f; rw [p2' v hv] at f; exact absurd f.symm (x2 v u hv hu ⟨a, b⟩ (by omega))
      · rw [n2 u hu] at e f; rw [n2 v hv] at f; exact h2.2 u v a b c d e f
  · by_cases h : C v
    · rw [p2' v h] at e; exact hn v a b e
    · rw [n2 v h] at e
      have := h2.2 v s a b hs.1 hs.2 (by omega) (by omega)
      rw [this] at h
      exact h c0
  · refine sPl_add _ (by omega) (fun v a b => ?_)
    by_cases h : C v
    · rw [p1 v h, p2' v h]; omega
    · rw [n1 v h, n2 v h]
/-- one worker more: with a task that nobody has, or idle -/
theorem ext {σ : St} {q : Int → Int} (h : PLN σ q 0) {u x : Int} (hu : 0 ≤ u ∧ u < σ (TB 0) 0) (hx : okT σ u x) (hn : 0 ≤ x → ∀ v, 0 ≤ v → v < σ (TB 0) 0 → v ≠ u → q v ≠ x) : ∃ r : Int → Int, PLN σ r 0 ∧ r u = x ∧ (∀ v, v ≠ u → r v = q v) ∧ SS σ r = SS σ q - cst σ u (q u) + cst σ u x := by
  obtain ⟨r, hr⟩ : ∃ r : Int → Int, r = fun v => if v = u then x else q v := ⟨_, rfl⟩
  have hru : r u = x := by rw [hr]; exact if_pos rfl
  have hro : ∀ v, v ≠ u → r v = q v := fun v e => by rw [hr]; exact if_neg e
  clear hr
  refine ⟨r, ⟨fun v a b => ?_, fun y v a b c d e f => ?_⟩, hru, hro, ?_⟩
  · by_cases e : v = u
    · rw [e, hru]; exact hx
    · rw [hro v e]; exact h.1 v a b
  · by_cases e1 : y = u
    · by_cases e2 : v = u
      · omega
      · rw [e1, hru] at e f; rw [hro v e2] at f; exact absurd f.symm (hn e v c d e2)
    · by_cases e2 : v = u
      · rw [hro y e1] at e f; rw [e2, hru] at f; exact absurd f (hn (by omega) y a b e1)
      · rw [hro y e1] at e f; rw [hro v e2] at f; exact h.2 y v a b c d e f
  · unfold SS
    rw [sPl_one (w := u) _ (by omega) hro hu.2, if_pos (by omega), hru]
    omega

