/-! PRICES AND PLANS: what a task or a worker more or less is worth -/
theorem zero_lt_p2 {σ : St} (hT : TOK σ 0) : (0 : Int) ≤ 0 ∧ 0 < p2 (σ (TB 0) 1) := by
  have := p2_n hT.2.1
  omega
theorem bt_A {σ : St} (hT : TOK σ 0) {v : Int} (hv : 0 ≤ v ∧ v < σ (TB 0) 0) : bt (AW σ) v = 1 := by
  have hm := hT.1
  unfold AW
  rw [bt_all (by omega) (by omega), if_pos hv.2]
theorem bt_Aw {σ : St} (hT : TOK σ 0) {v w : Int} (hv : 0 ≤ v ∧ v < σ (TB 0) 0) (hw : 0 ≤ w ∧ w < σ (TB 0) 0) : bt (ub (AW σ) w) v = if v = w then 0 else 1 := by
  have hm := hT.1
  have h1 := AW_b hT
  rw [bt_ub (by omega) (by omega) (by omega), bt_A hT hv]
theorem low_all {σ : St} (hT : TOK σ 0) {q : Int → Int} (h : PLN σ q 0) (hp : ∀ v, 0 ≤ v → v < σ (TB 0) 0 → q v ≠ -2) : RW σ (AW σ) 0 0 ≤ SS σ q := by
  have hm := hT.1
  have h1 := RW_low hT (wk := AW σ) (q := q) (σ (TB 0) 0).toNat (by omega) 0 (zero_lt_p2 hT)
  rw [show σ (TB 0) 0 - ((σ (TB 0) 0).toNat : Int) = 0 by omega] at h1
  exact h1 h (fun v a b => ⟨fun e => absurd e (hp v a b), fun e => absurd (bt_A hT ⟨a, b⟩) e⟩) (fun v a b c => by rw [bt_0]; omega)
theorem low_but {σ : St} (hT : TOK σ 0) {q : Int → Int} {w : Int} (hw : 0 ≤ w ∧ w < σ (TB 0) 0) (h : PLN σ q 0) (hp : ∀ v, 0 ≤ v → v < σ (TB 0) 0 → v ≠ w → q v ≠ -2) (hqw : q w = -2) : RW σ (ub (AW σ) w) 0 0 ≤ SS σ q := by
  have hm := hT.1
  have h1 := RW_low hT (wk := ub (AW σ) w) (q := q) (σ (TB 0) 0).toNat (by omega) 0 (zero_lt_p2 hT)
  rw [show σ (TB 0) 0 - ((σ (TB 0) 0).toNat : Int) = 0 by omega] at h1
  refine h1 h (fun v a b => ?_) (fun v a b c => by rw [bt_0]; omega)
  rw [bt_Aw hT ⟨a, b⟩ hw]
  by_cases e : v = w
  · rw [if_pos e, e]; exact ⟨fun _ => by omega, fun _ => hqw⟩
  · rw [if_neg e]; exact ⟨fun g => absurd g (hp v a b e), fun g => absurd rfl g⟩
theorem ex_but {σ : St} (hT : TOK σ 0) {w : Int} (hw : 0 ≤ w ∧ w < σ (TB 0) 0) : ∃ q : Int → Int, PLN σ q 0 ∧ (∀ v, 0 ≤ v → v < σ (TB 0) 0 → v ≠ w → q v ≠ -2) ∧ q w = -2 ∧ SS σ q = RW σ (ub (AW σ) w) 0 0 := by
  have hm := hT.1
  have h1 := RW_ex hT (wk := ub (AW σ) w) (σ (TB 0) 0).toNat (by omega) 0 (zero_lt_p2 hT)
  rw [show σ (TB 0) 0 - ((σ (TB 0) 0).toNat : Int) = 0 by omega] at h1
  obtain ⟨q, g1, g2, g3, g4⟩ := h1
  refine ⟨q, g1, fun v a b c e => ?_, ?_, g4⟩
  · have := (g2 v a b).mp e
    rw [bt_Aw hT ⟨a, b⟩ hw, if_neg c] at this
    exact this rfl
  · refine (g2 w hw.1 hw.2).mpr ?_
    rw [bt_Aw hT hw hw, if_pos rfl]
    omega
theorem ex_all {σ : St} (hT : TOK σ 0) {tk : Int} (htk : 0 ≤ tk ∧ tk < p2 (σ (TB 0) 1)) : ∃ q : Int → Int, PLN σ q 0 ∧ (∀ v, 0 ≤ v → v < σ (TB 0) 0 → q v ≠ -2) ∧ (∀ v, 0 ≤ v → v < σ (TB 0) 0 → 0 ≤ q v → bt tk (q v) ≠ 1) ∧ SS σ q = RW σ (AW σ) 0 tk := by
  have hm := hT.1
  have h1 := RW_ex hT (wk := AW σ) (σ (TB 0) 0).toNat (by omega) tk htk
  rw [show σ (TB 0) 0 - ((σ (TB 0) 0).toNat : Int) = 0 by omega] at h1
  obtain ⟨q, g1, g2, g3, g4⟩ := h1
  exact ⟨q, g1, fun v a b e => absurd (bt_A hT ⟨a, b⟩) ((g2 v a b).mp e), g3, g4⟩
/-- a worker more, who is idle -/
theorem v_idle {σ : St} (hT : TOK σ 0) {w : Int} (hw : 0 ≤ w ∧ w < σ (TB 0) 0) : RW σ (AW σ) 0 0 ≤ RW σ (ub (AW σ) w) 0 0 + σ (TI 0) w := by
  obtain ⟨q, g1, g2, g3, g4⟩ := ex_but hT hw
  obtain ⟨r, f1, f2, f3, f4⟩ := ext g1 hw (x := -1) (Or.inr (Or.inl rfl)) (fun h => by omega)
  have h1 := low_all hT f1 (fun v a b => by
    by_cases e : v = w
    · rw [e, f2]; omega
    · rw [f3 v e]; exact g2 v a b e)
  rw [g3, cst_n, cst_i] at f4
  omega
/-- the same with a task, if a plan that costs as much doesn't use it -/
theorem v_task {σ : St} (hT : TOK σ 0) {w x b0 : Int} (hw : 0 ≤ w ∧ w < σ (TB 0) 0) (hx : 0 ≤ x ∧ x < σ (TB 0) 1) (hc : σ (TR 0 w) x ≠ -1) {q : Int → Int} (g1 : PLN σ q 0) (g2 : ∀ v, 0 ≤ v → v < σ (TB 0) 0 → v ≠ w → q v ≠ -2) (g3 : q w = -2) (g5 : ∀ v, 0 ≤ v → v < σ (TB 0) 0 → q v ≠ x) (g4 : SS σ q = b0) : RW σ (AW σ) 0 0 ≤ b0 + σ (TR 0 w) x := by
  obtain ⟨r, f1, f2, f3, f4⟩ := ext g1 hw (x := x) (Or.inr (Or.inr ⟨hx, hc⟩)) (fun _ v a b _ => g5 v a b)
  have h1 := low_all hT f1 (fun v a b => by
    by_cases e : v = w
    · rw [e, f2]; omega
    · rw [f3 v e]; exact g2 v a b e)
  rw [g3, cst_n, cst_t hx.1] at f4
  omega
theorem one_of (P : Int → Prop) (m : Int) : (∀ v, 0 ≤ v → v < m → ¬ P v) ∨ ∃ v, (0 ≤ v ∧ v < m) ∧ P v := by
  by_cases h : ∃ v, (0 ≤ v ∧ v < m) ∧ P v
  · exact Or.inr h
  · exact Or.inl (fun v a b c => h ⟨v, ⟨a, b⟩, c⟩)
/-- a task that a least plan leaves free is worth nothing -/
theorem v_free {σ : St} (hT : TOK σ 0) {P : Int → Int} (hP : PLN σ P 0) (hp : ∀ v, 0 ≤ v → v < σ (TB 0) 0 → P v ≠ -2) (hS : SS σ P = RW σ (AW σ) 0 0) {w j : Int} (hw : 0 ≤ w ∧ w < σ (TB 0) 0) (hj : 0 ≤ j ∧ j < σ (TB 0) 1) (hn : ∀ v, 0 ≤ v → v < σ (TB 0) 0 → P v ≠ j) (hc : σ (TR 0 w) j ≠ -1) : RW σ (AW σ) 0 0 ≤ RW σ (ub (AW σ) w) 0 0 + σ (TR 0 w) j := by
  obtain ⟨q, g1, g2, g3, g4⟩ := ex_but hT hw
  rcases one_of (fun v => q v = j) (σ (TB 0) 0) with h | ⟨s, hs, h⟩
  · exact v_task hT hw hj hc g1 g2 g3 h g4
  · obtain ⟨C, r1, r2, k1, k2, k3, k4, k5, k6⟩ := swp hP g1 hs h hj.1 hn
    have hcw : ¬ C w := fun e => by have := (k4 w e).1; omega
    have h1 := low_all hT k1 (fun v a b => by
      by_cases e : C v
      · have := k4 v e; omega
      · rw [(k5 v e).1]; exact hp v a b)
    have h2 := v_task hT hw hj hc k2 (fun v a b c => by
      by_cases e : C v
      · rw [(k4 v e).2.2]; exact hp v a b
      · rw [(k5 v e).2]; exact g2 v a b c) (by rw [(k5 w hcw).2]; exact g3) k3 rfl
    omega
/-- the greatest price is no less than what a worker would give -/
theorem v_great {σ : St} (hT : TOK σ 0) {w j : Int} (hw : 0 ≤ w ∧ w < σ (TB 0) 0) (hj : 0 ≤ j ∧ j < σ (TB 0) 1) (hc : σ (TR 0 w) j ≠ -1) : RW σ (AW σ) 0 0 + RW σ (AW σ) 0 0 ≤ RW σ (AW σ) 0 (p2 j) + RW σ (ub (AW σ) w) 0 0 + σ (TR 0 w) j := by
  have hn7 := hT.2.1
  have hpj : 0 ≤ p2 j ∧ p2 j < p2 (σ (TB 0) 1) := by
    have h1 := p2_k (k := j) (by omega)
    have h2 := p2_lt (k := j) (n := σ (TB 0) 1) hj.1 hj.2 (by omega)
    omega
  obtain ⟨P, p1, p2', p3, p4⟩ := ex_all hT hpj
  have hn : ∀ v, 0 ≤ v → v < σ (TB 0) 0 → P v ≠ j := fun v a b e => by
    have h := p3 v a b (by omega)
    rw [e, bt_p2 (by omega) (by omega), if_pos rfl] at h
    exact h rfl
  obtain ⟨q, g1, g2, g3, g4⟩ := ex_but hT hw
  rcases one_of (fun v => q v = j) (σ (TB 0) 0) with h | ⟨s, hs, h⟩
  · have h1 := v_task hT hw hj hc g1 g2 g3 h g4
    have h2 := low_all hT p1 p2'
    omega
  · obtain ⟨C, r1, r2, k1, k2, k3, k4, k5, k6⟩ := swp p1 g1 hs h hj.1 hn
    have hcw : ¬ C w := fun e => by have := (k4 w e).1; omega
    have h1 := low_all hT k1 (fun v a b => by
      by_cases e : C v
      · have := k4 v e; omega
      · rw [(k5 v e).1]; exact p2' v a b)
    have h2 := v_task hT hw hj hc k2 (fun v a b c => by
      by_cases e : C v
      · rw [(k4 v e).2.2]; exact p2' v a b
      · rw [(k5 v e).2]; exact g2 v a b c) (by rw [(k5 w hcw).2]; exact g3) k3 rfl
    omega
theorem v_great0 {σ : St} (hT : TOK σ 0) {j : Int} (hj : 0 ≤ j ∧ j < σ (TB 0) 1) : RW σ (AW σ) 0 0 ≤ RW σ (AW σ) 0 (p2 j) := by
  have hn7 := hT.2.1
  have hpj : 0 ≤ p2 j ∧ p2 j < p2 (σ (TB 0) 1) := by
    have h1 := p2_k (k := j) (by omega)
    have h2 := p2_lt (k := j) (n := σ (TB 0) 1) hj.1 hj.2 (by omega)
    omega
  obtain ⟨P, p1, p2', p3, p4⟩ := ex_all hT hpj
  have h2 := low_all hT p1 p2'
  omega
/-- another worker has the task instead -/
theorem v_star {σ : St} (hT : TOK σ 0) {P : Int → Int} (hP : PLN σ P 0) (hp : ∀ v, 0 ≤ v → v < σ (TB 0) 0 → P v ≠ -2) (hS : SS σ P = RW σ (AW σ) 0 0) {w u x : Int} (hw : 0 ≤ w ∧ w < σ (TB 0) 0) (hu : 0 ≤ u ∧ u < σ (TB 0) 0) (huw : u ≠ w) (hx : 0 ≤ x ∧ x < σ (TB 0) 1) (hPw : P w = x) (hc : σ (TR 0 u) x ≠ -1) : σ (TR 0 w) x + RW σ (ub (AW σ) w) 0 0 ≤ RW σ (ub (AW σ) u) 0 0 + σ (TR 0 u) x := by
  obtain ⟨R, f1, f2, f3, f4⟩ := ext hP hw (x := -2) (Or.inl rfl) (fun h => by omega)
  rw [hPw, cst_t hx.1, cst_n] at f4
  have hRx : ∀ v, 0 ≤ v → v < σ (TB 0) 0 → R v ≠ x := fun v a b e => by
    by_cases h : v = w
    · rw [h, f2] at e; omega
    · rw [f3 v h] at e
      exact h (hP.2 v w a b hw.1 hw.2 (by omega) (by omega))
  have hRp : ∀ v, 0 ≤ v → v < σ (TB 0) 0 → v ≠ w → R v ≠ -2 := fun v a b h => by rw [f3 v h]; exact hp v a b
  obtain ⟨q, g1, g2, g3, g4⟩ := ex_but hT hu
  rcases one_of (fun v => q v = x) (σ (TB 0) 0) with h | ⟨s, hs, h⟩
  · have h1 := v_task hT hu hx hc g1 g2 g3 h g4
    have h2 := low_but hT hw f1 hRp f2
    omega
  · obtain ⟨C, r1, r2, k1, k2, k3, k4, k5, k6⟩ := swp f1 g1 hs h hx.1 hRx
    have hcu : ¬ C u := fun e => by have := (k4 u e).1; omega
    have r2u : r2 u = -2 := by rw [(k5 u hcu).2]; exact g3
    by_cases hcw : C w
    · have h1 := low_all hT k1 (fun v a b => by
        by_cases e : C v
        · have := k4 v e; omega
        · rw [(k5 v e).1]; exact hRp v a b (fun e2 => by rw [e2] at e; exact e hcw))
      obtain ⟨r, e1, e2, e3, e4⟩ := ext k2 hu (x := x) (Or.inr (Or.inr ⟨hx, hc⟩)) (fun _ v a b _ => k3 v a b)
      rw [r2u, cst_n, cst_t hx.1] at e4
      have h2 := low_but hT hw e1 (fun v a b c => by
        by_cases e : v = u
        · rw [e, e2]; omega
        · rw [e3 v e]
          by_cases e9 : C v
          · rw [(k4 v e9).2.2]; exact hRp v a b c
          · rw [(k5 v e9).2]; exact g2 v a b e) (by rw [e3 w (fun e => huw e.symm), (k4 w hcw).2.2]; exact f2)
      omega
    · have h1 := low_but hT hw k1 (fun v a b c => by
        by_cases e : C v
        · have := k4 v e; omega
        · rw [(k5 v e).1]; exact hRp v a b c) (by rw [(k5 w hcw).1]; exact f2)
      have h2 := v_task hT hu hx hc k2 (fun v a b c => by
        by_cases e : C v
        · rw [(k4 v e).2.2]; exact hRp v a b (fun e2 => by rw [e2] at e; exact hcw e)
        · rw [(k5 v e).2]; exact g2 v a b c) r2u k3 rfl
      omega
/-- without a worker -/
theorem v_but {σ : St} (hT : TOK σ 0) {P : Int → Int} (hP : PLN σ P 0) (hp : ∀ v, 0 ≤ v → v < σ (TB 0) 0 → P v ≠ -2) (hS : SS σ P = RW σ (AW σ) 0 0) {w : Int} (hw : 0 ≤ w ∧ w < σ (TB 0) 0) : RW σ (ub (AW σ) w) 0 0 ≤ RW σ (AW σ) 0 0 - cst σ w (P w) := by
  obtain ⟨R, f1, f2, f3, f4⟩ := ext hP hw (x := -2) (Or.inl rfl) (fun h => by omega)
  rw [cst_n] at f4
  have h2 := low_but hT hw f1 (fun v a b h => by rw [f3 v h]; exact hp v a b) f2
  omega
/-! the least prices -/
theorem lp_pc {σ : St} (hT : TOK σ 0) {j : Int} : 0 ≤ lpP σ j ∧ (∀ w, 0 ≤ w → w < σ (TB 0) 0 → ¬ isB σ 0 w j = 1 → shR σ w - σ (TR 0 w) j ≤ lpP σ j) ∧ (lpP σ j = 0 ∨ ∃ w, (0 ≤ w ∧ w < σ (TB 0) 0) ∧ ¬ isB σ 0 w j = 1 ∧ lpP σ j = shR σ w - σ (TR 0 w) j) := by
  obtain ⟨mm, hmm⟩ := Int.eq_ofNat_of_zero_le hT.1.1
  have h := FI_px (P := fun w => isB σ 0 w j = 1) (f := fun w => shR σ w - σ (TR 0 w) j) (b := 0) mm
  have e : FI (fun a w => if isB σ 0 w j = 1 then a else max a (shR σ w - σ (TR 0 w) j)) 0 mm = lpP σ j := by
    unfold lpP lpS
    rw [hmm]
  obtain ⟨h1, h2, h3⟩ := h
  refine ⟨by rw [← e]; exact h1, fun w a b c => by rw [← e]; exact h2 w a (by omega) c, ?_⟩
  rcases h3 with h3 | ⟨w, a, b, c, d⟩
  · exact Or.inl (by rw [← e]; exact h3)
  · exact Or.inr ⟨w, ⟨a, by omega⟩, c, by rw [← e]; exact d⟩
theorem isB_c {σ : St} {w j : Int} (hj : 0 ≤ j) : isB σ 0 w j = 1 ↔ σ (TR 0 w) j = -1 := by
  unfold isB
  by_cases h : σ (TR 0 w) j = -1
  · rw [if_pos ⟨by omega, h⟩]; exact ⟨fun _ => h, fun _ => rfl⟩
  · rw [if_neg (fun e => h e.2)]; exact ⟨fun e => by omega, fun e => absurd e h⟩
def lp0 (σ : St) (t : Int) : Int := if 0 ≤ t then lpP σ t else 0
theorem wo_pc {σ : St} (hT : TOK σ 0) {w : Int} : wOP σ w ≤ σ (TI 0) w ∧ (∀ j, 0 ≤ j → j < σ (TB 0) 1 → σ (TR 0 w) j ≠ -1 → wOP σ w ≤ σ (TR 0 w) j + lpP σ j) ∧ (wOP σ w = σ (TI 0) w ∨ ∃ j, (0 ≤ j ∧ j < σ (TB 0) 1) ∧ σ (TR 0 w) j ≠ -1 ∧ wOP σ w = σ (TR 0 w) j + lpP σ j) := by
  obtain ⟨nn, hnn⟩ := Int.eq_ofNat_of_zero_le hT.2.1.1
  have h := FI_pc (P := fun j => isB σ 0 w j = 1) (f := fun j => σ (TR 0 w) j + lpP σ j) (b := σ (TI 0) w) nn
  have e : FI (fun a j => if isB σ 0 w j = 1 then a else min a (σ (TR 0 w) j + lpP σ j)) (σ (TI 0) w) nn = wOP σ w := by
    unfold wOP
    rw [hnn]
  obtain ⟨h1, h2, h3⟩ := h
  refine ⟨by rw [← e]; exact h1, fun j a b c => by rw [← e]; exact h2 j a (by omega) (fun g => c ((isB_c a).mp g)), ?_⟩
  rcases h3 with h3 | ⟨j, a, b, c, d⟩
  · exact Or.inl (by rw [← e]; exact h3)
  · exact Or.inr ⟨j, ⟨a, by omega⟩, fun g => c ((isB_c a).mpr g), by rw [← e]; exact d⟩
/-- in a least plan each worker has what is best at the least prices -/
theorem d_tight {σ : St} (hT : TOK σ 0) {P : Int → Int} (hP : PLN σ P 0) (hp : ∀ v, 0 ≤ v → v < σ (TB 0) 0 → P v ≠ -2) (hS : SS σ P = RW σ (AW σ) 0 0) {w : Int} (hw : 0 ≤ w ∧ w < σ (TB 0) 0) : wOP σ w = cst σ w (P w) + lp0 σ (P w) := by
  obtain ⟨o1, o2, o3⟩ := wo_pc hT (w := w)
  have hbut := v_but hT hP hp hS hw
  have hidle := v_idle hT hw
  have hsh : shR σ w = RW σ (AW σ) 0 0 - RW σ (ub (AW σ) w) 0 0 := rfl
  -- what the plan's choice costs at the prices is no more than any other's
  have up1 : ∀ y, okT σ w y → y ≠ -2 → shR σ w ≤ cst σ w y + lp0 σ y := by
    intro y hy hy2
    rcases hy with h | h | ⟨h, h2⟩
    · exact absurd h hy2
    · rw [h, cst_i]
      have : lp0 σ (-1) = 0 := if_neg (by omega)
      omega
    · have h3 := (lp_pc hT (j := y)).2.1 w hw.1 hw.2 (fun g => h2 ((isB_c h.1).mp g))
      have : lp0 σ y = lpP σ y := if_pos h.1
      rw [cst_t h.1]
      omega
  have up2 : cst σ w (P w) + lp0 σ (P w) ≤ shR σ w := by
    by_cases hx : 0 ≤ P w
    · have e0 : lp0 σ (P w) = lpP σ (P w) := if_pos hx
      have hok := hP.1 w hw.1 hw.2
      have hx2 : (0 ≤ P w ∧ P w < σ (TB 0) 1) ∧ σ (TR 0 w) (P w) ≠ -1 := by
        rcases hok with h | h | h
        · omega
        · omega
        · exact h
      rcases (lp_pc hT (j := P w)).2.2 with h | ⟨u, hu, h1, h2⟩
      · omega
      · have hc : σ (TR 0 u) (P w) ≠ -1 := fun g => h1 ((isB_c hx).mpr g)
        by_cases huw : u = w
        · rw [huw] at h2
          rw [e0, h2, cst_t hx]
          omega
        · have h3 := v_star hT hP hp hS hw hu huw hx2.1 rfl hc
          have hsu : shR σ u = RW σ (AW σ) 0 0 - RW σ (ub (AW σ) u) 0 0 := rfl
          rw [e0, h2, cst_t hx]
          omega
    · have e0 : lp0 σ (P w) = 0 := if_neg hx
      omega
  have hok := hP.1 w hw.1 hw.2
  have hle : wOP σ w ≤ cst σ w (P w) + lp0 σ (P w) := by
    rcases hok with h | h | ⟨h, h2⟩
    · exact absurd h (hp w hw.1 hw.2)
    · rw [h, cst_i]
      have : lp0 σ (-1) = 0 := if_neg (by omega)
      omega
    · have h3 := o2 (P w) h.1 h.2 h2
      have : lp0 σ (P w) = lpP σ (P w) := if_pos h.1
      rw [cst_t h.1]
      omega
  have hge : cst σ w (P w) + lp0 σ (P w) ≤ wOP σ w := by
    rcases o3 with h | ⟨j, h1, h2, h3⟩
    · have h4 := up1 (-1) (Or.inr (Or.inl rfl)) (by omega)
      have : lp0 σ (-1) = 0 := if_neg (by omega)
      rw [cst_i] at h4
      omega
    · have h4 := up1 j (Or.inr (Or.inr ⟨h1, h2⟩)) (by omega)
      have : lp0 σ j = lpP σ j := if_pos h1.1
      rw [cst_t h1.1] at h4
      omega
  omega
theorem d_free {σ : St} (hT : TOK σ 0) {P : Int → Int} (hP : PLN σ P 0) (hp : ∀ v, 0 ≤ v → v < σ (TB 0) 0 → P v ≠ -2) (hS : SS σ P = RW σ (AW σ) 0 0) {j : Int} (hj : 0 ≤ j ∧ j < σ (TB 0) 1) (hn : ∀ v, 0 ≤ v → v < σ (TB 0) 0 → P v ≠ j) : lpP σ j = 0 := by
  obtain ⟨h1, -, h3⟩ := lp_pc hT (j := j)
  rcases h3 with h | ⟨w, hw, a, b⟩
  · exact h
  · have hc : σ (TR 0 w) j ≠ -1 := fun g => a ((isB_c hj.1).mpr g)
    have h4 := v_free hT hP hp hS hw hj hn hc
    have hsh : shR σ w = RW σ (AW σ) 0 0 - RW σ (ub (AW σ) w) 0 0 := rfl
    omega
theorem d_great {σ : St} (hT : TOK σ 0) {j : Int} (hj : 0 ≤ j ∧ j < σ (TB 0) 1) : lpP σ j ≤ grP σ j := by
  obtain ⟨h1, -, h3⟩ := lp_pc hT (j := j)
  have hg : grP σ j = RW σ (AW σ) 0 (p2 j) - RW σ (AW σ) 0 0 := rfl
  rcases h3 with h | ⟨w, hw, a, b⟩
  · have := v_great0 hT hj
    omega
  · have hc : σ (TR 0 w) j ≠ -1 := fun g => a ((isB_c hj.1).mpr g)
    have h4 := v_great hT hw hj hc
    have hsh : shR σ w = RW σ (AW σ) 0 0 - RW σ (ub (AW σ) w) 0 0 := rfl
    omega
