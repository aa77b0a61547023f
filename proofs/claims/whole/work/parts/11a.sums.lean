/-! THE SUMS: least totals, the tasks that are gone told by a predicate -/
def ins (j : Int) (S : Int → Bool) : Int → Bool := fun i => decide (i = j) || S i
def LG (d : Int → Int) (c : Int → Int → Int) (n : Int) : List Int → (Int → Bool) → Int
  | [], _ => 0
  | w :: ws, S => FI (fun a j => min a (if c w j < 0 ∨ S j = true then 1000000 else c w j + LG d c n ws (ins j S))) (d w + LG d c n ws S) n
theorem ins_f {i j : Int} {S : Int → Bool} : ins j S i = false ↔ i ≠ j ∧ S i = false := by
  unfold ins
  simp
theorem FI_mle {f : Int → Int} {b : Int} : ∀ n : Nat, FI (fun a j => min a (f j)) b n ≤ b ∧ ∀ j : Int, 0 ≤ j → j < n → FI (fun a j => min a (f j)) b n ≤ f j := by
  intro n
  induction n with
  | zero => exact ⟨Int.le_refl _, fun j a b => by omega⟩
  | succ n ih =>
    have e : ((n + 1 : Nat) : Int) = (n : Int) + 1 := by omega
    rw [e, FI_s (by omega)]
    refine ⟨by omega, fun j h0 hj => ?_⟩
    by_cases h : j = n
    · rw [h]; omega
    · have := ih.2 j h0 (by omega); omega
theorem FI_mat {f : Int → Int} {b : Int} : ∀ n : Nat, FI (fun a j => min a (f j)) b n = b ∨ ∃ j : Int, 0 ≤ j ∧ j < n ∧ FI (fun a j => min a (f j)) b n = f j := by
  intro n
  induction n with
  | zero => exact Or.inl rfl
  | succ n ih =>
    have e : ((n + 1 : Nat) : Int) = (n : Int) + 1 := by omega
    rw [e, FI_s (by omega)]
    by_cases h : FI (fun a j => min a (f j)) b n ≤ f n
    · rw [Int.min_eq_left h]
      rcases ih with h1 | ⟨j, h1, h2, h3⟩
      · exact Or.inl h1
      · exact Or.inr ⟨j, h1, by omega, h3⟩
    · rw [Int.min_eq_right (by omega)]
      exact Or.inr ⟨n, by omega, by omega, rfl⟩
def OKd (d : Int → Int) (ws : List Int) : Prop := ∀ w ∈ ws, 0 ≤ d w ∧ d w ≤ 9999
theorem OKd.t {d : Int → Int} {w : Int} {ws : List Int} (h : OKd d (w :: ws)) : OKd d ws := fun v hv => h v (List.mem_cons_of_mem _ hv)
theorem OKd.h {d : Int → Int} {w : Int} {ws : List Int} (h : OKd d (w :: ws)) : 0 ≤ d w ∧ d w ≤ 9999 := h w List.mem_cons_self
theorem LG_b {d : Int → Int} {c : Int → Int → Int} {n : Int} (hn : 0 ≤ n) : ∀ (ws : List Int), OKd d ws → ∀ S, 0 ≤ LG d c n ws S ∧ LG d c n ws S ≤ 9999 * ws.length := by
  intro ws
  induction ws with
  | nil => intro _ S; exact ⟨Int.le_refl _, Int.le_refl _⟩
  | cons w ws ih =>
    intro h S
    have ih' := ih h.t
    have hw := h.h
    have h1 := ih' S
    have h3 := FI_minI (f := fun j => if c w j < 0 ∨ S j = true then 1000000 else c w j + LG d c n ws (ins j S)) (b := d w + LG d c n ws S) (lo := 0) hn (by omega) (fun j h0 hj => by
      have h4 := ih' (ins j S)
      show 0 ≤ (if c w j < 0 ∨ S j = true then (1000000 : Int) else c w j + LG d c n ws (ins j S))
      by_cases h6 : c w j < 0 ∨ S j = true
      · rw [if_pos h6]; omega
      · rw [if_neg h6]
        have : ¬ c w j < 0 := fun h7 => h6 (Or.inl h7)
        omega)
    rw [List.length_cons]
    have e : ((ws.length + 1 : Nat) : Int) = (ws.length : Int) + 1 := by omega
    rw [e]
    refine ⟨h3.1, ?_⟩
    show FI (fun a j => min a (if c w j < 0 ∨ S j = true then 1000000 else c w j + LG d c n ws (ins j S))) (d w + LG d c n ws S) n ≤ _
    omega
theorem LG_1 {d : Int → Int} {c : Int → Int → Int} {n w : Int} (hn : 0 ≤ n) {ws : List Int} {S : Int → Bool} : LG d c n (w :: ws) S ≤ d w + LG d c n ws S := by
  obtain ⟨k, rfl⟩ := Int.eq_ofNat_of_zero_le hn
  exact (FI_mle k).1
theorem LG_2 {d : Int → Int} {c : Int → Int → Int} {n w j : Int} {ws : List Int} {S : Int → Bool} (hj : 0 ≤ j ∧ j < n) (hc : 0 ≤ c w j) (hS : S j = false) : LG d c n (w :: ws) S ≤ c w j + LG d c n ws (ins j S) := by
  obtain ⟨k, rfl⟩ := Int.eq_ofNat_of_zero_le (show 0 ≤ n by omega)
  have h := (FI_mle (f := fun j => if c w j < 0 ∨ S j = true then 1000000 else c w j + LG d c k ws (ins j S)) (b := d w + LG d c k ws S) k).2 j hj.1 hj.2
  have e : (if c w j < 0 ∨ S j = true then 1000000 else c w j + LG d c k ws (ins j S)) = c w j + LG d c k ws (ins j S) := if_neg (fun h => by
    rcases h with h | h
    · omega
    · rw [hS] at h; cases h)
  rw [e] at h
  exact h
theorem LG_3 {d : Int → Int} {c : Int → Int → Int} {n w : Int} (hn : 0 ≤ n) {ws : List Int} {S : Int → Bool} (hd : OKd d (w :: ws)) (hl : ws.length ≤ 7) : LG d c n (w :: ws) S = d w + LG d c n ws S ∨ ∃ j, 0 ≤ j ∧ j < n ∧ 0 ≤ c w j ∧ S j = false ∧ LG d c n (w :: ws) S = c w j + LG d c n ws (ins j S) := by
  have hb := LG_b (c := c) hn ws hd.t S
  have h1 := LG_1 (d := d) (c := c) (w := w) (ws := ws) (S := S) hn
  have h2 := hd.h
  obtain ⟨k, rfl⟩ := Int.eq_ofNat_of_zero_le hn
  rcases FI_mat (f := fun j => if c w j < 0 ∨ S j = true then 1000000 else c w j + LG d c k ws (ins j S)) (b := d w + LG d c k ws S) k with h | ⟨j, g1, g2, h⟩
  · exact Or.inl h
  · refine Or.inr ⟨j, g1, g2, ?_⟩
    have h' : LG d c k (w :: ws) S = if c w j < 0 ∨ S j = true then 1000000 else c w j + LG d c k ws (ins j S) := h
    by_cases g : c w j < 0 ∨ S j = true
    · rw [if_pos g] at h'; omega
    · rw [if_neg g] at h'
      refine ⟨?_, ?_, h'⟩
      · by_cases g3 : c w j < 0
        · exact absurd (Or.inl g3) g
        · omega
      · cases hs : S j with
        | false => rfl
        | true => exact absurd (Or.inr hs) g
/-- more to choose from is no dearer -/
theorem LG_le {d d' : Int → Int} {c c' : Int → Int → Int} {n n' : Int} (hn : 0 ≤ n) (hn' : 0 ≤ n') : ∀ (ws : List Int), OKd d' ws → ws.length ≤ 7 → (∀ w ∈ ws, d w ≤ d' w) → ∀ S S' : Int → Bool, (∀ w ∈ ws, ∀ j, 0 ≤ j → j < n' → 0 ≤ c' w j → S' j = false → j < n ∧ 0 ≤ c w j ∧ c w j ≤ c' w j ∧ S j = false) → LG d c n ws S ≤ LG d' c' n' ws S' := by
  intro ws
  induction ws with
  | nil => intro _ _ _ S S' _; exact Int.le_refl _
  | cons w ws ih =>
    intro hd hl hdd S S' h
    rw [List.length_cons] at hl
    have ih' := ih hd.t (by omega) (fun v hv => hdd v (List.mem_cons_of_mem _ hv))
    rcases LG_3 (c := c') (S := S') hn' hd (by omega) with h3 | ⟨j, g1, g2, g3, g4, h3⟩
    · have h4 := LG_1 (d := d) (c := c) (w := w) (ws := ws) (S := S) hn
      have h5 := ih' S S' (fun v hv => h v (List.mem_cons_of_mem _ hv))
      have h6 := hdd w List.mem_cons_self
      omega
    · obtain ⟨k1, k2, k3, k4⟩ := h w List.mem_cons_self j g1 g2 g3 g4
      have h4 := LG_2 (d := d) (c := c) (w := w) (ws := ws) ⟨g1, k1⟩ k2 k4
      have h5 := ih' (ins j S) (ins j S') (fun v hv i a b e f => by
        obtain ⟨f1, f2⟩ := ins_f.mp f
        obtain ⟨m1, m2, m3, m4⟩ := h v (List.mem_cons_of_mem _ hv) i a b e f2
        exact ⟨m1, m2, m3, ins_f.mpr ⟨f1, m4⟩⟩)
      omega
theorem LG_eq {d d' : Int → Int} {c c' : Int → Int → Int} {n n' : Int} (hn : 0 ≤ n) (hn' : 0 ≤ n') {ws : List Int} (hd : OKd d ws) (hl : ws.length ≤ 7) (hdd : ∀ w ∈ ws, d w = d' w) {S S' : Int → Bool}
    (h1 : ∀ w ∈ ws, ∀ j, 0 ≤ j → j < n' → 0 ≤ c' w j → S' j = false → j < n ∧ c w j = c' w j ∧ S j = false)
    (h2 : ∀ w ∈ ws, ∀ j, 0 ≤ j → j < n → 0 ≤ c w j → S j = false → j < n' ∧ c w j = c' w j ∧ S' j = false) : LG d c n ws S = LG d' c' n' ws S' := by
  have hd' : OKd d' ws := fun w hw => by rw [← hdd w hw]; exact hd w hw
  have a := LG_le (d := d) (c := c) (n := n) hn hn' ws hd' hl (fun w hw => by rw [hdd w hw]; exact Int.le_refl _) S S' (fun w hw j a b e f => by
    obtain ⟨x, y, z⟩ := h1 w hw j a b e f
    exact ⟨x, by omega, by omega, z⟩)
  have b := LG_le (d := d') (c := c') (n := n') hn' hn ws hd hl (fun w hw => by rw [hdd w hw]; exact Int.le_refl _) S' S (fun w hw j a b e f => by
    obtain ⟨x, y, z⟩ := h2 w hw j a b e f
    exact ⟨x, by omega, by omega, z⟩)
  omega
theorem LG_S {d : Int → Int} {c : Int → Int → Int} {n : Int} (hn : 0 ≤ n) {ws : List Int} (hd : OKd d ws) (hl : ws.length ≤ 7) {S S' : Int → Bool} (h : ∀ j, 0 ≤ j → j < n → S j = S' j) : LG d c n ws S = LG d c n ws S' :=
  LG_eq hn hn hd hl (fun _ _ => rfl) (fun w _ j a b _ f => ⟨b, rfl, by rw [h j a b]; exact f⟩) (fun w _ j a b _ f => ⟨b, rfl, by rw [← h j a b]; exact f⟩)
theorem LG_swap1 {d : Int → Int} {c : Int → Int → Int} {n : Int} (hn : 0 ≤ n) {v w : Int} {ws : List Int} (hd : OKd d (v :: w :: ws)) (hl : ws.length ≤ 5) (S : Int → Bool) : LG d c n (v :: w :: ws) S ≤ LG d c n (w :: v :: ws) S := by
  have hd2 : OKd d (w :: v :: ws) := fun x hx => hd x (by
    rcases List.mem_cons.mp hx with h | h
    · rw [h]; exact List.mem_cons_of_mem _ List.mem_cons_self
    · rcases List.mem_cons.mp h with h | h
      · rw [h]; exact List.mem_cons_self
      · exact List.mem_cons_of_mem _ (List.mem_cons_of_mem _ h))
  have a1 := LG_1 (d := d) (c := c) (w := v) (ws := w :: ws) (S := S) hn
  have a2 := LG_1 (d := d) (c := c) (w := w) (ws := ws) (S := S) hn
  rcases LG_3 (c := c) (S := S) hn hd2 (by rw [List.length_cons]; omega) with h | ⟨j, g1, g2, g3, g4, h⟩
  · rcases LG_3 (c := c) (S := S) hn hd2.t (by omega) with k | ⟨i, k1, k2, k3, k4, k⟩
    · omega
    · have b1 := LG_2 (d := d) (c := c) (w := v) (ws := w :: ws) (S := S) ⟨k1, k2⟩ k3 k4
      have b2 := LG_1 (d := d) (c := c) (w := w) (ws := ws) (S := ins i S) hn
      omega
  · rcases LG_3 (c := c) (S := ins j S) hn hd2.t (by omega) with k | ⟨i, k1, k2, k3, k4, k⟩
    · have b2 := LG_2 (d := d) (c := c) (w := w) (ws := ws) (S := S) ⟨g1, g2⟩ g3 g4
      omega
    · obtain ⟨f1, f2⟩ := ins_f.mp k4
      have b1 := LG_2 (d := d) (c := c) (w := v) (ws := w :: ws) (S := S) ⟨k1, k2⟩ k3 f2
      have b2 := LG_2 (d := d) (c := c) (w := w) (ws := ws) (S := ins i S) ⟨g1, g2⟩ g3 (ins_f.mpr ⟨fun e => f1 e.symm, g4⟩)
      have b3 : LG d c n ws (ins j (ins i S)) = LG d c n ws (ins i (ins j S)) := LG_S hn hd.t.t (by omega) (fun x _ _ => by
        unfold ins
        cases decide (x = j) <;> cases decide (x = i) <;> rfl)
      omega
theorem LG_swap {d : Int → Int} {c : Int → Int → Int} {n : Int} (hn : 0 ≤ n) {v w : Int} {ws : List Int} (hd : OKd d (v :: w :: ws)) (hl : ws.length ≤ 5) (S : Int → Bool) : LG d c n (v :: w :: ws) S = LG d c n (w :: v :: ws) S := by
  have hd2 : OKd d (w :: v :: ws) := fun x hx => hd x (by
    rcases List.mem_cons.mp hx with h | h
    · rw [h]; exact List.mem_cons_of_mem _ List.mem_cons_self
    · rcases List.mem_cons.mp h with h | h
      · rw [h]; exact List.mem_cons_self
      · exact List.mem_cons_of_mem _ (List.mem_cons_of_mem _ h))
  have h1 := LG_swap1 (c := c) hn hd hl S
  have h2 := LG_swap1 (c := c) hn hd2 hl S
  omega
theorem LG_tail {d : Int → Int} {c : Int → Int → Int} {n w : Int} (hn : 0 ≤ n) {xs ys : List Int} (h : ∀ S, LG d c n xs S = LG d c n ys S) (S : Int → Bool) : LG d c n (w :: xs) S = LG d c n (w :: ys) S := by
  show FI _ _ n = FI _ _ n
  rw [h S]
  exact FI_congrI hn (fun a j _ _ => by rw [h (ins j S)])
theorem wl_s {wk m : Int} {i : Nat} : wl wk m (i + 1) = if bt wk (m - (i + 1)) = 1 then (m - (i + 1)) :: wl wk m i else wl wk m i := rfl
theorem wl_congr {wk wk' m : Int} : ∀ (i : Nat), (∀ v, m - i ≤ v → v < m → (bt wk v = 1 ↔ bt wk' v = 1)) → wl wk m i = wl wk' m i := by
  intro i
  induction i with
  | zero => intro _; rfl
  | succ i ih =>
    intro h
    have ih' := ih (fun v a b => h v (by omega) b)
    have hh := h (m - (i + 1)) (by omega) (by omega)
    rw [wl_s, wl_s, ih']
    by_cases hb : bt wk (m - (i + 1)) = 1
    · rw [if_pos hb, if_pos (hh.mp hb)]
    · rw [if_neg hb, if_neg (fun e => hb (hh.mpr e))]
theorem wl_low {wk m w : Int} (hw : 0 ≤ w ∧ w ≤ m) : ∀ (i : Nat), (i : Int) ≤ w → (∀ v, 0 ≤ v → v < w → bt wk v ≠ 1) → wl wk m ((m - w).toNat + i) = wl wk m (m - w).toNat := by
  intro i
  induction i with
  | zero => intro _ _; rfl
  | succ i ih =>
    intro h hb
    rw [show (m - w).toNat + (i + 1) = ((m - w).toNat + i) + 1 by omega, wl_s, if_neg (hb _ (by omega) (by omega))]
    exact ih (by omega) hb
theorem OKd.wl {d : Int → Int} {wk m : Int} {i : Nat} (hm : m ≤ 7) (hi : (i : Int) ≤ m) (hd : ∀ w, 0 ≤ w → w < 7 → 0 ≤ d w ∧ d w ≤ 9999) : OKd d (wl wk m i) := fun w hw => by
  have := wl_in i w hw
  exact hd w (by omega) (by omega)
/-- any of the workers may be the first -/
theorem LG_front {d : Int → Int} {c : Int → Int → Int} {n m wk w : Int} (hn : 0 ≤ n) (hm : m ≤ 7) (hd : ∀ w, 0 ≤ w → w < 7 → 0 ≤ d w ∧ d w ≤ 9999) (hk : 0 ≤ wk ∧ wk < 256) (hw : 0 ≤ w ∧ w < m) (hb : bt wk w = 1) : ∀ (i : Nat), (i : Int) ≤ m → m - i ≤ w → ∀ S, LG d c n (wl wk m i) S = LG d c n (w :: wl (ub wk w) m i) S := by
  intro i
  induction i with
  | zero => intro _ h; omega
  | succ i ih =>
    intro hi h S
    have hu : bt (ub wk w) w = 0 := by rw [bt_ub hk (by omega) (by omega), if_pos rfl]
    rw [wl_s, wl_s]
    by_cases hv : m - (i + 1) = w
    · rw [hv, if_pos hb, if_neg (by omega)]
      rw [wl_congr (wk := ub wk w) (wk' := wk) i (fun v a b => by rw [bt_ub hk (by omega) (by omega), if_neg (by omega)])]
    · have ih' := ih (by omega) (by omega)
      have hbv : bt (ub wk w) (m - (i + 1)) = bt wk (m - (i + 1)) := by rw [bt_ub hk (by omega) (by omega), if_neg hv]
      rw [hbv]
      by_cases hc : bt wk (m - (i + 1)) = 1
      · rw [if_pos hc, if_pos hc, LG_tail hn ih' S]
        have hO : OKd d (wl (ub wk w) m i) := OKd.wl hm (by omega) hd
        refine LG_swap hn (fun x hx => ?_) ?_ S
        · rcases List.mem_cons.mp hx with e | hx
          · rw [e]; exact hd _ (by omega) (by omega)
          · rcases List.mem_cons.mp hx with e | hx
            · rw [e]; exact hd _ (by omega) (by omega)
            · exact hO x hx
        · -- w is not among them, and so they are fewer
          have hlen : ∀ k : Nat, (k : Int) ≤ m → m - k ≤ w → (wl (ub wk w) m k).length + 1 ≤ k := by
            intro k
            induction k with
            | zero => intro _ h; omega
            | succ k ihk =>
              intro hk1 hk2
              rw [wl_s]
              by_cases hkw : m - (k + 1) = w
              · rw [hkw, if_neg (by omega)]
                have := wl_len (wk := ub wk w) (m := m) k
                omega
              · have := ihk (by omega) (by omega)
                by_cases hkb : bt (ub wk w) (m - (k + 1)) = 1
                · rw [if_pos hkb, List.length_cons]; omega
                · rw [if_neg hkb]; omega
          have := hlen i (by omega) (by omega)
          omega
      · rw [if_neg hc, if_neg hc]; exact ih' S
/-- with a task x more: nobody has it, or one has it -/
theorem LG_more {d : Int → Int} {c : Int → Int → Int} {n m wk x : Int} (hn : 0 ≤ n) (hm : m ≤ 7) (hd : ∀ w, 0 ≤ w → w < 7 → 0 ≤ d w ∧ d w ≤ 9999) (hk : 0 ≤ wk ∧ wk < 256) : ∀ (i : Nat), (i : Int) ≤ m → ∀ S, LG d c n (wl wk m i) (ins x S) ≤ LG d c n (wl wk m i) S ∨ ∃ w, m - i ≤ w ∧ w < m ∧ bt wk w = 1 ∧ 0 ≤ c w x ∧ c w x + LG d c n (wl (ub wk w) m i) (ins x S) ≤ LG d c n (wl wk m i) S := by
  intro i
  induction i with
  | zero => intro _ S; exact Or.inl (Int.le_refl _)
  | succ i ih =>
    intro hi S
    have ih' := ih (by omega)
    have hlen := wl_len (wk := wk) (m := m) i
    rw [wl_s]
    by_cases hb : bt wk (m - (i + 1)) = 1
    · rw [if_pos hb]
      obtain ⟨v, hv⟩ : ∃ v, v = m - ((i : Int) + 1) := ⟨_, rfl⟩
      rw [← hv] at hb ⊢
      have hO : OKd d (v :: wl wk m i) := fun y hy => by
        rcases List.mem_cons.mp hy with e | hy
        · rw [e]; exact hd _ (by omega) (by omega)
        · exact OKd.wl hm (by omega) hd y hy
      have hu : ∀ w, v < w → w < m → wl (ub wk w) m (i + 1) = v :: wl (ub wk w) m i := fun w h1 h2 => by
        rw [wl_s, ← hv, if_pos (by rw [bt_ub hk (by omega) (by omega), if_neg (by omega)]; exact hb)]
      rcases LG_3 (c := c) (S := S) hn hO (by omega) with h | ⟨j, g1, g2, g3, g4, h⟩
      · rcases ih' S with k | ⟨w, k1, k2, k3, k4, k5⟩
        · refine Or.inl ?_
          have := LG_1 (d := d) (c := c) (w := v) (ws := wl wk m i) (S := ins x S) hn
          omega
        · refine Or.inr ⟨w, by omega, k2, k3, k4, ?_⟩
          rw [hu w (by omega) k2]
          have := LG_1 (d := d) (c := c) (w := v) (ws := wl (ub wk w) m i) (S := ins x S) hn
          omega
      · by_cases hj : j = x
        · refine Or.inr ⟨v, by omega, by omega, hb, by rw [← hj]; exact g3, ?_⟩
          have e : wl (ub wk v) m (i + 1) = wl wk m i := by
            rw [wl_s, ← hv, if_neg (by rw [bt_ub hk (by omega) (by omega), if_pos rfl]; omega)]
            exact wl_congr i (fun u a b => by rw [bt_ub hk (by omega) (by omega), if_neg (by omega)])
          rw [e, ← hj]
          omega
        · have hcm : ∀ ys, OKd d ys → ys.length ≤ 7 → LG d c n ys (ins x (ins j S)) = LG d c n ys (ins j (ins x S)) := fun ys hy hl => LG_S hn hy hl (fun y _ _ => by
            unfold ins
            cases decide (y = j) <;> cases decide (y = x) <;> rfl)
          rcases ih' (ins j S) with k | ⟨w, k1, k2, k3, k4, k5⟩
          · refine Or.inl ?_
            have h2 := LG_2 (d := d) (c := c) (w := v) (ws := wl wk m i) (S := ins x S) ⟨g1, g2⟩ g3 (ins_f.mpr ⟨hj, g4⟩)
            rw [hcm _ hO.t (by omega)] at k
            omega
          · refine Or.inr ⟨w, by omega, k2, k3, k4, ?_⟩
            rw [hu w (by omega) k2]
            have h2 := LG_2 (d := d) (c := c) (w := v) (ws := wl (ub wk w) m i) (S := ins x S) ⟨g1, g2⟩ g3 (ins_f.mpr ⟨hj, g4⟩)
            have hlen2 := wl_len (wk := ub wk w) (m := m) i
            rw [hcm _ (OKd.wl hm (by omega) hd) (by omega)] at k5
            omega
    · rw [if_neg hb]
      rcases ih' S with k | ⟨w, k1, k2, k3, k4, k5⟩
      · exact Or.inl k
      · refine Or.inr ⟨w, by omega, k2, k3, k4, ?_⟩
        rw [wl_s, if_neg (by rw [bt_ub hk (by omega) (by omega), if_neg (fun e => hb (by rw [e]; exact k3))]; exact hb)]
        exact k5
