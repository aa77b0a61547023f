/-! THE SUMS: what the reference's table of totals comes to, and the class's rows -/
theorem bs_le {σ : St} {wk tk : Int} {i : Nat} {k : Int} : ∀ n : Nat, bsS σ wk tk i k n ≤ gS σ wk tk i k + dM σ i ∧ ∀ t : Int, 0 ≤ t → t < n → hsB tk k t = 1 → 0 ≤ cH σ i t → bsS σ wk tk i k n ≤ gS σ wk tk i (k - p2 t) + cH σ i t := by
  intro n
  induction n with
  | zero => exact ⟨Int.le_refl _, fun t a b => by omega⟩
  | succ n ih =>
    have e : ((n + 1 : Nat) : Int) = (n : Int) + 1 := by omega
    rw [e, bsS_s (by omega)]
    by_cases hc : hsB tk k n = 1 ∧ 0 ≤ cH σ i n ∧ gS σ wk tk i (k - p2 n) + cH σ i n < bsS σ wk tk i k n
    · rw [if_pos hc]
      refine ⟨by omega, fun t a b h1 h2 => ?_⟩
      by_cases ht : t = n
      · rw [ht]; exact Int.le_refl _
      · have := ih.2 t a (by omega) h1 h2; omega
    · rw [if_neg hc]
      refine ⟨ih.1, fun t a b h1 h2 => ?_⟩
      by_cases ht : t = n
      · rw [ht] at h1 h2 ⊢; omega
      · exact ih.2 t a (by omega) h1 h2
theorem bs_at {σ : St} {wk tk : Int} {i : Nat} {k : Int} : ∀ n : Nat, bsS σ wk tk i k n = gS σ wk tk i k + dM σ i ∨ ∃ t : Int, 0 ≤ t ∧ t < n ∧ hsB tk k t = 1 ∧ 0 ≤ cH σ i t ∧ bsS σ wk tk i k n = gS σ wk tk i (k - p2 t) + cH σ i t := by
  intro n
  induction n with
  | zero => exact Or.inl rfl
  | succ n ih =>
    have e : ((n + 1 : Nat) : Int) = (n : Int) + 1 := by omega
    rw [e, bsS_s (by omega)]
    by_cases hc : hsB tk k n = 1 ∧ 0 ≤ cH σ i n ∧ gS σ wk tk i (k - p2 n) + cH σ i n < bsS σ wk tk i k n
    · rw [if_pos hc]
      exact Or.inr ⟨n, by omega, by omega, hc.1, hc.2.1, rfl⟩
    · rw [if_neg hc]
      rcases ih with h | ⟨t, a, b, h1, h2, h3⟩
      · exact Or.inl h
      · exact Or.inr ⟨t, a, by omega, h1, h2, h3⟩
def nB (tk : Int) : Int → Bool := fun j => decide (bt tk j ≠ 1)
def yB (tk : Int) : Int → Bool := fun j => decide (bt tk j = 1)
def uB (k tk : Int) : Int → Bool := fun j => yB k j || nB tk j
theorem uB_f {k tk j : Int} : uB k tk j = false ↔ bt k j ≠ 1 ∧ bt tk j = 1 := by
  unfold uB yB nB
  simp
theorem uB_0 {tk j : Int} : uB 0 tk j = nB tk j := by
  unfold uB yB
  rw [bt_0]
  simp
theorem dM_b {σ : St} (hM : MT (σ 80)) : ∀ w, 0 ≤ w → w < 7 → 0 ≤ dM σ w ∧ dM σ w ≤ 9999 := hM.2.2.1
theorem uB_ins {k k' tk t : Int} (hk : 0 ≤ k ∧ k < 256) (hk' : k' = ub k t) (ht : 0 ≤ t ∧ t < 8) (h : bt k t = 1) : ∀ j, 0 ≤ j → j < 8 → ins t (uB k' tk) j = uB k tk j := by
  intro j a b
  unfold ins uB yB
  rw [hk', bt_ub hk ht ⟨a, b⟩]
  by_cases hj : j = t
  · rw [hj, h]; simp
  · rw [if_neg hj]; simp [hj]
theorem gS_min {σ : St} (hM : MT (σ 80)) {wk tk : Int} (htk : 0 ≤ tk ∧ tk < 256) : ∀ i : Nat, (i : Int) ≤ σ 80 0 →
    (∀ k, 0 ≤ k → k < 256 → LG (dM σ) (cH σ) 8 (wl wk (σ 80 0) (σ 80 0).toNat) (nB tk) ≤ gS σ wk tk i k + LG (dM σ) (cH σ) 8 (wl wk (σ 80 0) (σ 80 0 - i).toNat) (uB k tk)) ∧
    ∃ k, 0 ≤ k ∧ k < 256 ∧ LG (dM σ) (cH σ) 8 (wl wk (σ 80 0) (σ 80 0).toNat) (nB tk) = gS σ wk tk i k + LG (dM σ) (cH σ) 8 (wl wk (σ 80 0) (σ 80 0 - i).toNat) (uB k tk) := by
  have hm := hM.1
  have hO : ∀ i : Nat, (i : Int) ≤ σ 80 0 → OKd (dM σ) (wl wk (σ 80 0) i) := fun i hi => OKd.wl hm.2 hi (dM_b hM)
  have hL : ∀ i : Nat, (wl wk (σ 80 0) i).length ≤ i := fun i => wl_len i
  intro i
  induction i with
  | zero =>
    intro _
    have e : LG (dM σ) (cH σ) 8 (wl wk (σ 80 0) (σ 80 0).toNat) (uB 0 tk) = LG (dM σ) (cH σ) 8 (wl wk (σ 80 0) (σ 80 0).toNat) (nB tk) := LG_S (by omega) (hO _ (by omega)) (by have := hL (σ 80 0).toNat; omega) (fun j _ _ => uB_0)
    rw [show σ 80 0 - ((0 : Nat) : Int) = σ 80 0 by omega]
    have hb := LG_b (d := dM σ) (c := cH σ) (n := 8) (by omega) _ (hO (σ 80 0).toNat (by omega)) (nB tk)
    have hl := hL (σ 80 0).toNat
    refine ⟨fun k h0 h1 => ?_, 0, by omega, by omega, ?_⟩
    · by_cases hk : k = 0
      · rw [hk, e, gS, if_pos rfl]; omega
      · have hb2 := LG_b (d := dM σ) (c := cH σ) (n := 8) (by omega) _ (hO (σ 80 0).toNat (by omega)) (uB k tk)
        rw [gS, if_neg hk]
        omega
    · rw [e, gS, if_pos rfl]; omega
  | succ i ih =>
    intro hi
    obtain ⟨lo, k0, hk0, hk1, hat⟩ := ih (by omega)
    obtain ⟨X, hX⟩ : ∃ X, X = LG (dM σ) (cH σ) 8 (wl wk (σ 80 0) (σ 80 0).toNat) (nB tk) := ⟨_, rfl⟩
    rw [← hX] at lo hat ⊢
    have ew : (σ 80 0 - (i : Int)).toNat = (σ 80 0 - ((i + 1 : Nat) : Int)).toNat + 1 := by omega
    have ew2 : σ 80 0 - (((σ 80 0 - ((i + 1 : Nat) : Int)).toNat : Int) + 1) = i := by omega
    rw [ew, wl_s, ew2] at hat
    have lo' : ∀ k, 0 ≤ k → k < 256 → X ≤ gS σ wk tk i k + LG (dM σ) (cH σ) 8 (if bt wk i = 1 then (i : Int) :: wl wk (σ 80 0) (σ 80 0 - ((i + 1 : Nat) : Int)).toNat else wl wk (σ 80 0) (σ 80 0 - ((i + 1 : Nat) : Int)).toNat) (uB k tk) := fun k a b => by
      have := lo k a b
      rw [ew, wl_s, ew2] at this
      exact this
    by_cases hb : bt wk i = 1
    · rw [if_pos hb] at hat
      simp only [if_pos hb] at lo'
      have hOi : OKd (dM σ) ((i : Int) :: wl wk (σ 80 0) (σ 80 0 - ((i + 1 : Nat) : Int)).toNat) := fun y hy => by
        rcases List.mem_cons.mp hy with e | hy
        · rw [e]; exact dM_b hM _ (by omega) (by omega)
        · exact hO _ (by omega) y hy
      have hLi := hL (σ 80 0 - ((i + 1 : Nat) : Int)).toNat
      have low : ∀ k, 0 ≤ k → k < 256 → X ≤ gS σ wk tk (i + 1) k + LG (dM σ) (cH σ) 8 (wl wk (σ 80 0) (σ 80 0 - ((i + 1 : Nat) : Int)).toNat) (uB k tk) := by
        intro k a b
        rw [gS_1 hb]
        rcases bs_at (σ := σ) (wk := wk) (tk := tk) (i := i) (k := k) 8 with h | ⟨t, t0, t1, t2, t3, h⟩
        · have h' : bsS σ wk tk i k 8 = gS σ wk tk i k + dM σ i := h
          have h1 := lo' k a b
          have h2 := LG_1 (d := dM σ) (c := cH σ) (n := 8) (w := i) (ws := wl wk (σ 80 0) (σ 80 0 - ((i + 1 : Nat) : Int)).toNat) (S := uB k tk) (by omega)
          omega
        · have h' : bsS σ wk tk i k 8 = gS σ wk tk i (k - p2 t) + cH σ i t := h
          have t1' : t < 8 := t1
          obtain ⟨q1, q2⟩ := (hsB_1 htk.1 a t0).mp t2
          have hpt := p2_k (k := t) (by omega)
          have hle := bt_le (k := k) (t := t) a (by omega) q2
          have hub : k - p2 t = ub k t := by unfold ub; rw [if_pos q2]
          have h1 := lo' (k - p2 t) (by omega) (by omega)
          have h2 := LG_2 (d := dM σ) (c := cH σ) (n := 8) (w := i) (j := t) (ws := wl wk (σ 80 0) (σ 80 0 - ((i + 1 : Nat) : Int)).toNat) (S := uB (k - p2 t) tk) ⟨t0, t1'⟩ t3 (uB_f.mpr ⟨by rw [hub, bt_ub ⟨a, b⟩ ⟨t0, t1'⟩ ⟨t0, t1'⟩, if_pos rfl]; omega, q1⟩)
          rw [LG_S (by omega) (hO _ (by omega)) (by omega) (uB_ins (tk := tk) ⟨a, b⟩ hub ⟨t0, t1'⟩ q2)] at h2
          omega
      refine ⟨low, ?_⟩
      rcases LG_3 (d := dM σ) (c := cH σ) (n := 8) (S := uB k0 tk) (by omega) hOi (by omega) with h | ⟨j, g1, g2, g3, g4, h⟩
      · refine ⟨k0, hk0, hk1, ?_⟩
        have h1 := low k0 hk0 hk1
        have h2 := (bs_le (σ := σ) (wk := wk) (tk := tk) (i := i) (k := k0) 8).1
        rw [gS_1 hb] at h1 ⊢
        have h2' : bsS σ wk tk i k0 8 ≤ gS σ wk tk i k0 + dM σ i := h2
        omega
      · obtain ⟨f1, f2⟩ := uB_f.mp g4
        have hk2 := sb256 (m := k0) (k := j) ⟨hk0, hk1⟩ ⟨g1, g2⟩
        have hsv : sb k0 j = k0 + p2 j := by unfold sb; rw [if_neg f1]
        have hsbt : bt (sb k0 j) j = 1 := by rw [bt_sb ⟨hk0, hk1⟩ ⟨g1, g2⟩ ⟨g1, g2⟩, if_pos rfl]
        refine ⟨sb k0 j, hk2.1, hk2.2, ?_⟩
        have h1 := low (sb k0 j) hk2.1 hk2.2
        have h2 := (bs_le (σ := σ) (wk := wk) (tk := tk) (i := i) (k := sb k0 j) 8).2 j g1 g2 ((hsB_1 htk.1 hk2.1 g1).mpr ⟨f2, hsbt⟩) g3
        rw [gS_1 hb] at h1 ⊢
        have h2' : bsS σ wk tk i (sb k0 j) 8 ≤ gS σ wk tk i (sb k0 j - p2 j) + cH σ i j := h2
        rw [show sb k0 j - p2 j = k0 by omega] at h2'
        have hub : k0 = ub (sb k0 j) j := by unfold ub; rw [if_pos hsbt]; omega
        rw [LG_S (by omega) (hO _ (by omega)) (by omega) (uB_ins (tk := tk) hk2 hub ⟨g1, g2⟩ hsbt)] at h
        omega
    · rw [if_neg hb] at hat
      simp only [if_neg hb] at lo'
      rw [show gS σ wk tk (i + 1) = gS σ wk tk i from funext fun k => gS_0 hb]
      exact ⟨lo', k0, hk0, hk1, hat⟩
theorem fn_le {σ : St} {wk tk : Int} : ∀ n : Nat, fnS σ wk tk n ≤ 1000000 ∧ ∀ k : Int, 0 ≤ k → k < n → fnS σ wk tk n ≤ gS σ wk tk (σ 80 0).toNat k := by
  intro n
  induction n with
  | zero => exact ⟨Int.le_refl _, fun k a b => by omega⟩
  | succ n ih =>
    have e : ((n + 1 : Nat) : Int) = (n : Int) + 1 := by omega
    rw [e, fnS_s (by omega)]
    by_cases hc : gS σ wk tk (σ 80 0).toNat n < fnS σ wk tk n
    · rw [if_pos hc]
      refine ⟨by omega, fun k a b => ?_⟩
      by_cases hk : k = n
      · rw [hk]; exact Int.le_refl _
      · have := ih.2 k a (by omega); omega
    · rw [if_neg hc]
      refine ⟨ih.1, fun k a b => ?_⟩
      by_cases hk : k = n
      · rw [hk]; omega
      · exact ih.2 k a (by omega)
theorem fn_at {σ : St} {wk tk : Int} : ∀ n : Nat, fnS σ wk tk n = 1000000 ∨ ∃ k : Int, 0 ≤ k ∧ k < n ∧ fnS σ wk tk n = gS σ wk tk (σ 80 0).toNat k := by
  intro n
  induction n with
  | zero => exact Or.inl rfl
  | succ n ih =>
    have e : ((n + 1 : Nat) : Int) = (n : Int) + 1 := by omega
    rw [e, fnS_s (by omega)]
    by_cases hc : gS σ wk tk (σ 80 0).toNat n < fnS σ wk tk n
    · rw [if_pos hc]; exact Or.inr ⟨n, by omega, by omega, rfl⟩
    · rw [if_neg hc]
      rcases ih with h | ⟨k, a, b, h⟩
      · exact Or.inl h
      · exact Or.inr ⟨k, a, by omega, h⟩
/-- the reference's least total is the least total -/
theorem lfV_LG {σ : St} (hM : MT (σ 80)) {wk tk : Int} (htk : 0 ≤ tk ∧ tk < 256) : lfV σ wk tk = LG (dM σ) (cH σ) 8 (wl wk (σ 80 0) (σ 80 0).toNat) (nB tk) := by
  have hm := hM.1
  obtain ⟨lo, k0, hk0, hk1, hat⟩ := gS_min hM (wk := wk) htk (σ 80 0).toNat (by omega)
  have hb := LG_b (d := dM σ) (c := cH σ) (n := 8) (by omega) _ (OKd.wl (wk := wk) (i := (σ 80 0).toNat) hm.2 (by omega) (dM_b hM)) (nB tk)
  have hl := wl_len (wk := wk) (m := σ 80 0) (σ 80 0).toNat
  have e0 : (σ 80 0 - ((σ 80 0).toNat : Int)).toNat = 0 := by omega
  rw [e0] at hat
  simp only [e0] at lo
  have z : ∀ S, LG (dM σ) (cH σ) 8 (wl wk (σ 80 0) 0) S = 0 := fun S => rfl
  rw [z] at hat
  simp only [z] at lo
  have f1 := (fn_le (σ := σ) (wk := wk) (tk := tk) 256).2 k0 hk0 hk1
  have hE : fnS σ wk tk ((256 : Nat) : Int) = lfV σ wk tk := rfl
  rw [hE] at f1
  rcases fn_at (σ := σ) (wk := wk) (tk := tk) 256 with h | ⟨k, a, b, h⟩
  · rw [hE] at h; omega
  · rw [hE] at h
    have := lo k a b
    omega
/-- a table of the class and a table of the reference hold the same -/
def TEQ (σ : St) (t : Int) (g : Int → Int) : Prop := σ (TB t) 0 = g 0 ∧ σ (TB t) 1 = g 1 ∧ (∀ w, 0 ≤ w → w < g 0 → σ (TI t) w = g (2 + w)) ∧ ∀ w j, 0 ≤ w → w < g 0 → 0 ≤ j → j < g 1 → σ (TR t w) j = g (9 + 7 * w + j)
theorem LT_LG {d : Int → Int} {c : Int → Int → Int} {n : Int} (hn : 0 ≤ n ∧ n ≤ 7) : ∀ (ws : List Int), OKd d ws → ws.length ≤ 7 → (∀ w ∈ ws, ∀ j, 0 ≤ j → j < n → -1 ≤ c w j) → ∀ tk, 0 ≤ tk → tk < 256 → LT d c n ws tk = LG d c n ws (yB tk) := by
  intro ws
  induction ws with
  | nil => intro _ _ _ tk _ _; rfl
  | cons w ws ih =>
    intro hd hl hc tk h0 h1
    rw [List.length_cons] at hl
    have ih' := ih hd.t (by omega) (fun v hv => hc v (List.mem_cons_of_mem _ hv))
    show FI _ _ n = FI _ _ n
    rw [ih' tk h0 h1]
    refine FI_congrI hn.1 (fun a j g0 g1 => ?_)
    have hs := sb256 (m := tk) (k := j) ⟨h0, h1⟩ (by omega)
    have e : LT d c n ws (sb tk j) = LG d c n ws (ins j (yB tk)) := by
      rw [ih' _ hs.1 hs.2]
      refine LG_S hn.1 hd.t (by omega) (fun i a b => ?_)
      unfold yB ins
      rw [bt_sb ⟨h0, h1⟩ (by omega) (by omega)]
      by_cases hi : i = j
      · rw [if_pos hi]; simp [hi]
      · rw [if_neg hi]; simp [hi]
    rw [e]
    have h9 := hc w List.mem_cons_self j g0 g1
    have hb : yB tk j = true ↔ bt tk j = 1 := by unfold yB; simp
    by_cases hq : c w j = -1 ∨ bt tk j = 1
    · rw [if_pos hq, if_pos (by
        rcases hq with h | h
        · exact Or.inl (by omega)
        · exact Or.inr (hb.mpr h))]
    · rw [if_neg hq, if_neg (fun h => by
        rcases h with h | h
        · exact hq (Or.inl (by omega))
        · exact hq (Or.inr (hb.mp h)))]
theorem RW_LG {σ : St} (hM : MT (σ 80)) (hE : TEQ σ 0 (σ 80)) {wk w tk : Int} (hw : 0 ≤ w) (htk : 0 ≤ tk ∧ tk < 256) : RW σ wk w tk = LG (dM σ) (cM σ) (σ 80 1) (wl wk (σ 80 0) (σ 80 0 - w).toNat) (yB tk) := by
  have hm := hM.1
  have hn := hM.2.1
  obtain ⟨e0, e1, e2, e3⟩ := hE
  unfold RW LTc
  rw [e0, e1]
  have hin : ∀ v ∈ wl wk (σ 80 0) (σ 80 0 - w).toNat, 0 ≤ v ∧ v < σ 80 0 := fun v hv => by have := wl_in _ v hv; omega
  rw [LT_congr (d' := dM σ) (c' := cM σ) hn.1 _ (fun v hv => e2 v (hin v hv).1 (hin v hv).2) (fun v hv j a b => e3 v j (hin v hv).1 (hin v hv).2 a b) tk]
  exact LT_LG hn _ (OKd.wl hm.2 (by omega) (dM_b hM)) (by have := wl_len (wk := wk) (m := σ 80 0) (σ 80 0 - w).toNat; omega) (fun v hv j a b => (hM.2.2.2 v j (hin v hv).1 (by have := (hin v hv).2; omega) a (by omega)).1) tk htk.1 htk.2
theorem cH_N {σ : St} (hN : N4 σ) {w t : Int} (hw : 0 ≤ w) (ht : t < 7) : cH σ w t = cM σ w t := by
  obtain ⟨n1, n2, n3⟩ := hN
  unfold cH cHt
  rw [if_neg (by omega), if_neg (by omega)]
/-- the class's least total is the reference's -/
theorem RW_lf {σ : St} (hM : MT (σ 80)) (hN : N4 σ) (hE : TEQ σ 0 (σ 80)) {wk wk' w tk ts : Int} (hw : 0 ≤ w) (htk : 0 ≤ tk ∧ tk < 256) (hts : 0 ≤ ts ∧ ts < 256) (hwl : wl wk (σ 80 0) (σ 80 0 - w).toNat = wl wk' (σ 80 0) (σ 80 0).toNat)
    (h1 : ∀ j, 0 ≤ j → j < σ 80 1 → (bt ts j = 1 ↔ bt tk j ≠ 1)) (h2 : ∀ j, σ 80 1 ≤ j → j < 8 → bt ts j ≠ 1) : RW σ wk w tk = lfV σ wk' ts := by
  have hm := hM.1
  have hn := hM.2.1
  rw [RW_LG hM hE hw htk, lfV_LG hM hts, hwl]
  have hin : ∀ v ∈ wl wk' (σ 80 0) (σ 80 0).toNat, 0 ≤ v ∧ v < σ 80 0 := fun v hv => by have := wl_in _ v hv; omega
  refine LG_eq hn.1 (by omega) (OKd.wl hm.2 (by omega) (dM_b hM)) (by have := wl_len (wk := wk') (m := σ 80 0) (σ 80 0).toNat; omega) (fun _ _ => rfl) (fun v hv j a b e f => ?_) (fun v hv j a b e f => ?_)
  · have f' : bt ts j = 1 := by unfold nB at f; simpa using f
    have hj : j < σ 80 1 := by
      by_cases hj : j < σ 80 1
      · exact hj
      · exact absurd f' (h2 j (by omega) b)
    refine ⟨hj, (cH_N hN (hin v hv).1 (by omega)).symm, ?_⟩
    have := (h1 j a hj).mp f'
    unfold yB; simpa using this
  · refine ⟨by omega, (cH_N hN (hin v hv).1 (by omega)).symm, ?_⟩
    have f' : bt tk j ≠ 1 := by unfold yB at f; simpa using f
    have := (h1 j a b).mpr f'
    unfold nB; simpa using this
