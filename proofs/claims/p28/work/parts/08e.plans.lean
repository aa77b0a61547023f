/-! MY CONTRACTS: the plans -/
/-- a table's numbers are in their ranges -/
def TOK (σ : St) (t : Int) : Prop := (0 ≤ σ (TB t) 0 ∧ σ (TB t) 0 ≤ 7) ∧ (0 ≤ σ (TB t) 1 ∧ σ (TB t) 1 ≤ 7) ∧ (∀ w, 0 ≤ w → w < 7 → 0 ≤ σ (TI t) w ∧ σ (TI t) w ≤ 9999) ∧ ∀ w j, 0 ≤ w → w < 7 → 0 ≤ j → j < 7 → -1 ≤ σ (TR t w) j ∧ σ (TR t w) j ≤ 9999
/-- the least total of a list of workers, if the tasks of the set tk are gone -/
def LT (d : Int → Int) (c : Int → Int → Int) (n : Int) : List Int → Int → Int
  | [], _ => 0
  | w :: ws, tk => FI (fun a j => min a (if c w j = -1 ∨ bt tk j = 1 then 1000000 else c w j + LT d c n ws (sb tk j))) (d w + LT d c n ws tk) n
/-- the workers from m - i on that are in the set wk -/
def wl (wk m : Int) : Nat → List Int
  | 0 => []
  | i + 1 => if bt wk (m - (i + 1)) = 1 then (m - (i + 1)) :: wl wk m i else wl wk m i
theorem FI_min {f : Int → Int} {b lo : Int} (hb : lo ≤ b) (n : Nat) (hf : ∀ j : Int, 0 ≤ j → j < n → lo ≤ f j) : lo ≤ FI (fun a j => min a (f j)) b n ∧ FI (fun a j => min a (f j)) b n ≤ b := by
  induction n with
  | zero => exact ⟨hb, Int.le_refl _⟩
  | succ n ih =>
    have h1 := ih (fun j h0 hj => hf j h0 (by omega))
    have h2 := hf n (by omega) (by omega)
    have e : ((n + 1 : Nat) : Int) = (n : Int) + 1 := by omega
    rw [e, FI_s (by omega)]
    omega
theorem FI_minI {f : Int → Int} {b lo n : Int} (hn : 0 ≤ n) (hb : lo ≤ b) (hf : ∀ j : Int, 0 ≤ j → j < n → lo ≤ f j) : lo ≤ FI (fun a j => min a (f j)) b n ∧ FI (fun a j => min a (f j)) b n ≤ b := by
  obtain ⟨k, rfl⟩ := Int.eq_ofNat_of_zero_le hn
  exact FI_min hb k hf
theorem LT_b {d : Int → Int} {c : Int → Int → Int} {n : Int} (hn : 0 ≤ n) (hd : ∀ w, 0 ≤ w → w < 7 → 0 ≤ d w ∧ d w ≤ 9999) (hc : ∀ w j, 0 ≤ w → w < 7 → 0 ≤ j → j < n → -1 ≤ c w j) : ∀ (ws : List Int), (∀ w ∈ ws, 0 ≤ w ∧ w < 7) → ∀ tk, 0 ≤ LT d c n ws tk ∧ LT d c n ws tk ≤ 9999 * ws.length := by
  intro ws
  induction ws with
  | nil => intro _ tk; exact ⟨Int.le_refl _, Int.le_refl _⟩
  | cons w ws ih =>
    intro h tk
    have ih' := ih (fun v hv => h v (List.mem_cons_of_mem _ hv))
    have hw := h w List.mem_cons_self
    have h1 := ih' tk
    have h2 := hd w hw.1 hw.2
    have h3 := FI_minI (f := fun j => if c w j = -1 ∨ bt tk j = 1 then 1000000 else c w j + LT d c n ws (sb tk j)) (b := d w + LT d c n ws tk) (lo := 0) hn (by omega) (fun j h0 hj => by
      have h4 := ih' (sb tk j)
      have h5 := hc w j hw.1 hw.2 h0 hj
      show 0 ≤ (if c w j = -1 ∨ bt tk j = 1 then (1000000 : Int) else c w j + LT d c n ws (sb tk j))
      by_cases h6 : c w j = -1 ∨ bt tk j = 1
      · rw [if_pos h6]; omega
      · rw [if_neg h6]; omega)
    show 0 ≤ FI (fun a j => min a (if c w j = -1 ∨ bt tk j = 1 then 1000000 else c w j + LT d c n ws (sb tk j))) (d w + LT d c n ws tk) n ∧ _ ≤ _
    rw [List.length_cons]
    have e : ((ws.length + 1 : Nat) : Int) = (ws.length : Int) + 1 := by omega
    rw [e]
    refine ⟨h3.1, ?_⟩
    show FI (fun a j => min a (if c w j = -1 ∨ bt tk j = 1 then 1000000 else c w j + LT d c n ws (sb tk j))) (d w + LT d c n ws tk) n ≤ _
    omega
theorem wl_in {wk m : Int} : ∀ (i : Nat) (w : Int), w ∈ wl wk m i → m - i ≤ w ∧ w < m := by
  intro i
  induction i with
  | zero => intro w h; cases h
  | succ i ih =>
    intro w h
    unfold wl at h
    by_cases hb : bt wk (m - (i + 1)) = 1
    · rw [if_pos hb] at h
      rcases List.mem_cons.mp h with rfl | h
      · omega
      · have := ih w h; omega
    · rw [if_neg hb] at h
      have := ih w h; omega
theorem wl_len {wk m : Int} : ∀ (i : Nat), (wl wk m i).length ≤ i := by
  intro i
  induction i with
  | zero => exact Nat.le_refl _
  | succ i ih =>
    unfold wl
    by_cases hb : bt wk (m - (i + 1)) = 1
    · rw [if_pos hb, List.length_cons]; omega
    · rw [if_neg hb]; omega
def LTc (σ : St) (ws : List Int) (tk : Int) : Int := LT (fun w => σ (TI 0) w) (fun w j => σ (TR 0 w) j) (σ (TB 0) 1) ws tk
def RW (σ : St) (wk w tk : Int) : Int := LTc σ (wl wk (σ (TB 0) 0) (σ (TB 0) 0 - w).toNat) tk
theorem tb_lr {x : Int} (h : 0 ≤ x) : TB 0 ≠ LR x := by
  unfold TB LR
  omega
def FR (σ σ' : St) : Prop := ∀ q k, (q < 71 ∨ 79 ≤ q) → σ' q k = σ q k
def WP (σ : St) (wk : Int) (σ' : St) : Prop := FR σ σ' ∧ ∀ w tk, 0 ≤ w → w ≤ σ (TB 0) 0 → 0 ≤ tk → tk < p2 (σ (TB 0) 1) → σ' (LR w) tk = RW σ wk w tk
theorem TOK.of {σ σ' : St} (h : TOK σ 0) (hf : FR σ σ') : TOK σ' 0 := by
  have e : ∀ q k, q < 71 → σ' q k = σ q k := fun q k hq => hf q k (Or.inl hq)
  refine ⟨?_, ?_, fun w h1 h2 => ?_, fun w j h1 h2 h3 h4 => ?_⟩
  · rw [e _ _ (by unfold TB; omega)]; exact h.1
  · rw [e _ _ (by unfold TB; omega)]; exact h.2.1
  · rw [e _ _ (by unfold TI; omega)]; exact h.2.2.1 w h1 h2
  · rw [e _ _ (by unfold TR; omega)]; exact h.2.2.2 w j h1 h2 h3 h4
theorem RW_b {σ : St} (hT : TOK σ 0) (wk w tk : Int) (hw : 0 ≤ w) : 0 ≤ RW σ wk w tk ∧ RW σ wk w tk ≤ 69993 := by
  have h := LT_b (d := fun w => σ (TI 0) w) (c := fun w j => σ (TR 0 w) j) (n := σ (TB 0) 1) hT.2.1.1 hT.2.2.1 (fun w j h1 h2 h3 h4 => (hT.2.2.2 w j h1 h2 h3 (by have := hT.2.1; omega)).1) (wl wk (σ (TB 0) 0) (σ (TB 0) 0 - w).toNat) (fun v hv => by
    have := wl_in _ v hv
    have := hT.1
    omega) tk
  have h2 := wl_len (wk := wk) (m := σ (TB 0) 0) (σ (TB 0) 0 - w).toNat
  have := hT.1
  refine ⟨h.1, Int.le_trans h.2 ?_⟩
  omega
theorem RW_end {σ : St} {wk tk : Int} : RW σ wk (σ (TB 0) 0) tk = 0 := by
  unfold RW
  rw [Int.sub_self]
  rfl
theorem RW_step {σ : St} {wk w tk : Int} (hw : 0 ≤ w ∧ w < σ (TB 0) 0) : RW σ wk w tk = if bt wk w = 1 then FI (fun a j => min a (if σ (TR 0 w) j = -1 ∨ bt tk j = 1 then 1000000 else σ (TR 0 w) j + RW σ wk (w + 1) (sb tk j))) (σ (TI 0) w + RW σ wk (w + 1) tk) (σ (TB 0) 1) else RW σ wk (w + 1) tk := by
  have e : (σ (TB 0) 0 - w).toNat = (σ (TB 0) 0 - (w + 1)).toNat + 1 := by omega
  have e2 : σ (TB 0) 0 - (((σ (TB 0) 0 - (w + 1)).toNat : Int) + 1) = w := by omega
  have e3 : wl wk (σ (TB 0) 0) (σ (TB 0) 0 - w).toNat = if bt wk w = 1 then w :: wl wk (σ (TB 0) 0) (σ (TB 0) 0 - (w + 1)).toNat else wl wk (σ (TB 0) 0) (σ (TB 0) 0 - (w + 1)).toNat := by
    rw [e]
    show (if bt wk (σ (TB 0) 0 - (((σ (TB 0) 0 - (w + 1)).toNat : Int) + 1)) = 1 then _ :: _ else _) = _
    rw [e2]
  unfold RW
  rw [e3]
  by_cases hb : bt wk w = 1
  · rw [if_pos hb, if_pos hb]
    rfl
  · rw [if_neg hb, if_neg hb]
def tF (σ : St) (w j tk : Int) : Int := if σ (TR 0 w) j = -1 ∨ bt tk j = 1 then 1000000 else σ (TR 0 w) j + σ (LR (w + 1)) (sb tk j)
def lF (σ : St) (w tk i : Int) : Int := FI (fun a j => min a (tF σ w j tk)) (σ (TI 0) w + σ (LR (w + 1)) tk) i
theorem lF_s {σ : St} {w tk i : Int} (h : 0 ≤ i) : lF σ w tk (i + 1) = min (lF σ w tk i) (tF σ w i tk) := FI_s h
theorem FI_congr {f g : Int → Int → Int} {b : Int} : ∀ (n : Nat), (∀ a j : Int, 0 ≤ j → j < (n : Int) → f a j = g a j) → FI f b n = FI g b n := by
  intro n
  induction n with
  | zero => intro _; rfl
  | succ n ih =>
    intro h
    have e : ((n + 1 : Nat) : Int) = (n : Int) + 1 := by omega
    rw [e, FI_s (by omega), FI_s (by omega), ih (fun a j h0 hj => h a j h0 (by omega))]
    exact h _ _ (by omega) (by omega)
theorem FI_congrI {f g : Int → Int → Int} {b n : Int} (hn : 0 ≤ n) (h : ∀ a j, 0 ≤ j → j < n → f a j = g a j) : FI f b n = FI g b n := by
  obtain ⟨k, rfl⟩ := Int.eq_ofNat_of_zero_le hn
  exact FI_congr k h
/-- the rows' bound that the pure methods want -/
def LB (σ : St) (w : Int) : Prop := ∀ k, 0 ≤ k → k < p2 (σ (TB 0) 1) → 0 ≤ σ (LR w) k ∧ σ (LR w) k ≤ 70000
theorem p2_n {n : Int} (h : 0 ≤ n ∧ n ≤ 7) : 1 ≤ p2 n ∧ p2 n ≤ 128 := by
  have h1 := p2_k (k := n) (by omega)
  have h2 := p2_lt (k := n) (n := 8) h.1 (by omega) (by omega)
  have h3 : p2 8 = 256 := rfl
  omega
set_option maxHeartbeats 4000000 in
set_option maxRecDepth 100000 in
theorem k_X1_totalFrom (E0 : EV) {ad : Int → Nat} {σ : St} {w j tk : Int} (hw : 0 ≤ w ∧ w < 7) (hj : 0 ≤ j ∧ j < σ (TB 0) 1 ∧ σ (TB 0) 1 ≤ 7) (htk : 0 ≤ tk ∧ tk < p2 (σ (TB 0) 1)) (hc : -1 ≤ σ (TR 0 w) j ∧ σ (TR 0 w) j ≤ 9999) (hLb : LB σ (w + 1)) : MGE E0 yX1_totalFrom wsX1_totalFrom 0 0 ad σ [.ref (ad 3), .int (iI w), .int (iI j), .int (iI tk)] (PF (tF σ w j tk) σ) := by
  refine MGE.of (cc := cX1_totalFrom) (maxL := 5) (ret := (some .int)) (own := RX1) [some (.ref (ad 3)), some (.int (iI w)), some (.int (iI j)), some (.int (iI tk)), none] (by decide +kernel) rfl rfl (Nat.le_of_ble_eq_true rfl) rfl rfl (fun E X hr => ?_)
  have i1 : ∀ w ∈ wsX10, w ∈ wsX1_totalFrom := by decide +kernel
  have i4 : ∀ w ∈ wsX40, w ∈ wsX1_totalFrom := by decide +kernel
  refine g_rg (fun hR0 => ?_)
  have hp := p2_n (n := σ (TB 0) 1) (by omega)
  have hs := sb_lt (n := σ (TB 0) 1) htk (k := j) (by omega) (by omega)
  have hL2 := hLb (sb tk j) hs.1 hs.2
  have hq : 0 ≤ tk / p2 j ∧ tk / p2 j < 256 := by
    have h1 := p2_k (k := j) (by omega)
    exact ⟨Int.ediv_nonneg htk.1 (by omega), Int.lt_of_le_of_lt (Int.ediv_le_self _ htk.1) (by omega)⟩
  have hb1 : tk / p2 j % 2 = bt tk j := rfl
  refine g_aload0 X dX1_totalFrom_0 ?_
  refine gf_1_table X i1 (by decide +kernel) dX1_totalFrom_1 ?_
  refine gf_4_costs X (by omega) i4 (by decide +kernel) dX1_totalFrom_4 ?_
  refine g_iload1 X dX1_totalFrom_7 ?_
  refine g_aald_TC X (by omega) (by omega) dX1_totalFrom_8 ?_
  refine g_iload2 X dX1_totalFrom_9 ?_
  refine g_iald X (ia_TR (by omega) (by omega) (by omega)) dX1_totalFrom_10 ?_
  refine g_istore4 X dX1_totalFrom_11 (by decide) (by first | exact Or.inl rfl | exact Or.inr ⟨_, rfl, rfl⟩) ?_
  refine g_iload4 X dX1_totalFrom_13 ?_
  refine g_iconst X dX1_totalFrom_15 ?_
  refine g_icmp_eq (tgt := 28) X (by first | exact hR0 _ _ | assumption | (unfold InR; omega)) (by first | exact hR0 _ _ | assumption | (unfold InR; omega)) dX1_totalFrom_16 (by decide) (fun h16 => ?_) (fun h16 => ?_)
  · skip
    refine g_ldc X (z := 1000000) (by decide +kernel) rfl dX1_totalFrom_28 ?_
    exact g_iretF X hr (by first | exact hR0 _ _ | assumption | (unfold InR; omega)) ⟨by first | (unfold tF; rw [if_pos (by omega)]; done) | (unfold tF; rw [if_neg (by omega)]; done), rfl⟩ dX1_totalFrom_30
  · skip
    refine g_iload3 X dX1_totalFrom_19 ?_
    refine g_iload2 X dX1_totalFrom_20 ?_
    refine g_ishr X (b_shr (by omega) (by omega)) dX1_totalFrom_21 ?_
    refine g_iconst X dX1_totalFrom_22 ?_
    refine g_iand X (b_and1 (by omega)) dX1_totalFrom_23 ?_
    refine g_iconst X dX1_totalFrom_24 ?_
    refine g_icmp_ne (tgt := 31) X (by first | exact hR0 _ _ | assumption | (unfold InR; omega)) (by first | exact hR0 _ _ | assumption | (unfold InR; omega)) dX1_totalFrom_25 (by decide) (fun h25 => ?_) (fun h25 => ?_)
    · skip
      refine g_iload4 X dX1_totalFrom_31 ?_
      refine g_aload0 X dX1_totalFrom_33 ?_
      refine gf_1_least X i1 (by decide +kernel) dX1_totalFrom_34 ?_
      refine g_iload1 X dX1_totalFrom_37 ?_
      refine g_iconst X dX1_totalFrom_38 ?_
      refine g_iadd X dX1_totalFrom_39 ?_
      refine g_aald_5 X (by omega) dX1_totalFrom_40 ?_
      refine g_iload3 X dX1_totalFrom_41 ?_
      refine g_iconst X dX1_totalFrom_42 ?_
      refine g_iload2 X dX1_totalFrom_43 ?_
      refine g_ishl X (b_shl (by omega)) dX1_totalFrom_44 ?_
      refine g_ior X (b_or (by omega) (by omega)) dX1_totalFrom_45 ?_
      refine g_iald X (ia_LR (by omega) (by omega)) dX1_totalFrom_46 ?_
      refine g_iadd X dX1_totalFrom_47 ?_
      exact g_iretF X hr (by first | exact hR0 _ _ | assumption | (unfold InR; omega)) ⟨by first | (unfold tF; rw [if_pos (by omega)]; done) | (unfold tF; rw [if_neg (by omega)]; done), rfl⟩ dX1_totalFrom_48
    · skip
      refine g_ldc X (z := 1000000) (by decide +kernel) rfl dX1_totalFrom_28 ?_
      exact g_iretF X hr (by first | exact hR0 _ _ | assumption | (unfold InR; omega)) ⟨by first | (unfold tF; rw [if_pos (by omega)]; done) | (unfold tF; rw [if_neg (by omega)]; done), rfl⟩ dX1_totalFrom_30

set_option maxHeartbeats 4000000 in
set_option maxRecDepth 100000 in
theorem k_X1_leastFrom (E0 : EV) {ad : Int → Nat} {σ : St} {w tk : Int} (hT0 : TOK σ 0) (hw : 0 ≤ w ∧ w < 7) (htk : 0 ≤ tk ∧ tk < p2 (σ (TB 0) 1)) (hLb : LB σ (w + 1)) : MGE E0 yX1_leastFrom wsX1_leastFrom 1 24 ad σ [.ref (ad 3), .int (iI w), .int (iI tk)] (PF (lF σ w tk (σ (TB 0) 1)) σ) := by
  refine MGE.of (cc := cX1_leastFrom) (maxL := 5) (ret := (some .int)) (own := RX1) [some (.ref (ad 3)), some (.int (iI w)), some (.int (iI tk)), none, none] (by decide +kernel) rfl rfl (Nat.le_of_ble_eq_true rfl) rfl rfl (fun E X hr => ?_)
  have i1 : ∀ w ∈ wsX10, w ∈ wsX1_leastFrom := by decide +kernel
  have i4 : ∀ w ∈ wsX40, w ∈ wsX1_leastFrom := by decide +kernel
  refine g_rg (fun hR0 => ?_)
  have hn := hT0.2.1
  have hd := hT0.2.2.1 w hw.1 hw.2
  have hp := p2_n (n := σ (TB 0) 1) hn
  have hL2 := hLb tk htk.1 htk.2
  refine g_aload0 X dX1_leastFrom_0 ?_
  refine gf_1_table X i1 (by decide +kernel) dX1_leastFrom_1 ?_
  refine gf_4_idleCosts X (by omega) i4 (by decide +kernel) dX1_leastFrom_4 ?_
  refine g_iload1 X dX1_leastFrom_7 ?_
  refine g_iald X (ia_TI (by omega) (by omega)) dX1_leastFrom_8 ?_
  refine g_aload0 X dX1_leastFrom_9 ?_
  refine gf_1_least X i1 (by decide +kernel) dX1_leastFrom_10 ?_
  refine g_iload1 X dX1_leastFrom_13 ?_
  refine g_iconst X dX1_leastFrom_14 ?_
  refine g_iadd X dX1_leastFrom_15 ?_
  refine g_aald_5 X (by omega) dX1_leastFrom_16 ?_
  refine g_iload2 X dX1_leastFrom_17 ?_
  refine g_iald X (ia_LR (by omega) (by omega)) dX1_leastFrom_18 ?_
  refine g_iadd X dX1_leastFrom_19 ?_
  refine g_istore3 X dX1_leastFrom_20 (by decide) (by first | exact Or.inl rfl | exact Or.inr ⟨_, rfl, rfl⟩) ?_
  refine g_iconst X dX1_leastFrom_21 ?_
  refine g_istore4 X dX1_leastFrom_22 (by decide) (by first | exact Or.inl rfl | exact Or.inr ⟨_, rfl, rfl⟩) ?_
  have L24 : ∀ (n24 : Nat) (i a : Int), (σ (TB 0) 1 - i).toNat < n24 → (0 ≤ i ∧ i ≤ σ (TB 0) 1) → (-1 ≤ a ∧ a ≤ 80000) → (a = lF σ w tk i) → WG E ad 5 σ 24 [some (.ref (ad 3)), some (.int (iI w)), some (.int (iI tk)), some (.int (iI a)), some (.int (iI i))] [] := by
    intro n24
    induction n24 with
    | zero => intro i a hn; exact absurd hn (Nat.not_lt_zero _)
    | succ n24 ih24 =>
      intro i a hn24 hi ha hs
      refine g_rg (fun hRL24 => ?_)
      refine g_iload4 X dX1_leastFrom_24 ?_
      refine g_aload0 X dX1_leastFrom_26 ?_
      refine gf_1_table X i1 (by decide +kernel) dX1_leastFrom_27 ?_
      refine gf_4_tasks X (by omega) i4 (by decide +kernel) dX1_leastFrom_30 ?_
      refine g_icmp_ge (tgt := 55) X (by first | exact hRL24 _ _ | exact hR0 _ _ | assumption | (unfold InR; omega)) (by first | exact hRL24 _ _ | exact hR0 _ _ | assumption | (unfold InR; omega)) dX1_leastFrom_33 (by decide) (fun h33 => ?_) (fun h33 => ?_)
      · skip
        refine g_iload3 X dX1_leastFrom_55 ?_
        exact g_iretF X hr (by first | exact hRL24 _ _ | exact hR0 _ _ | assumption | (unfold InR; omega)) ⟨by rw [hs]; congr 1; omega, rfl⟩ dX1_leastFrom_56
      · skip
        have hc := hT0.2.2.2 w i hw.1 hw.2 hi.1 (by omega)
        have hs9 := sb_lt (n := σ (TB 0) 1) htk (k := i) (by omega) (by omega)
        have hL3 := hLb (sb tk i) hs9.1 hs9.2
        have htF : -1 ≤ tF σ w i tk ∧ tF σ w i tk ≤ 1000000 := by
          unfold tF
          by_cases h9 : σ (TR 0 w) i = -1 ∨ bt tk i = 1
          · rw [if_pos h9]; omega
          · rw [if_neg h9]; omega
        refine g_iload3 X dX1_leastFrom_36 ?_
        refine g_aload0 X dX1_leastFrom_37 ?_
        refine g_iload1 X dX1_leastFrom_38 ?_
        refine g_iload4 X dX1_leastFrom_39 ?_
        refine g_iload2 X dX1_leastFrom_41 ?_
        refine g_F3 X (k_X1_totalFrom E (by omega) (by omega) (by omega) (by omega) hLb) gX1_leastFrom_X1_totalFrom rfl (by decide +kernel) (by decide) ob_3 (Nat.le_of_ble_eq_true rfl) dX1_leastFrom_42 (fun hz42 => ?_)
        refine g_rg (fun hR42 => ?_)
        refine g_min X (by first | exact hR42 _ _ | exact hRL24 _ _ | exact hR0 _ _ | assumption | (unfold InR; omega)) (by first | exact hR42 _ _ | exact hRL24 _ _ | exact hR0 _ _ | assumption | (unfold InR; omega)) (by decide +kernel) (by decide +kernel) (by decide +kernel) (by decide +kernel) (by decide) (Nat.le_of_ble_eq_true rfl) dX1_leastFrom_45 ?_
        refine g_istore3 X dX1_leastFrom_48 (by decide) (by first | exact Or.inl rfl | exact Or.inr ⟨_, rfl, rfl⟩) ?_
        refine g_iinc4 X dX1_leastFrom_49 (by decide) (by first | exact Or.inl rfl | exact Or.inr ⟨_, rfl, rfl⟩) ?_
        refine g_goto (tgt := 24) X dX1_leastFrom_52 (by decide) ?_
        refine ih24 _ _ (by omega) ?_ ?_ ?_
        · omega
        · omega
        · rw [hs]
          exact (lF_s hi.1).symm
  refine L24 _ _ _ (Nat.lt_succ_self _) ?_ ?_ ?_
  · omega
  · omega
  · rfl

set_option maxHeartbeats 4000000 in
set_option maxRecDepth 100000 in
theorem k_X1_weigh (E0 : EV) {ad : Int → Nat} {σ : St} {wk : Int} (hT0 : TOK σ 0) (hwk : 0 ≤ wk ∧ wk < 256) : MGE E0 yX1_weigh wsX1_weigh 2 48 ad σ [.ref (ad 3), .int (iI wk)] (PV (fun σ' => WP σ wk σ')) := by
  refine MGE.of (cc := cX1_weigh) (maxL := 6) (ret := none) (own := RX1) [some (.ref (ad 3)), some (.int (iI wk)), none, none, none, none] (by decide +kernel) rfl rfl (Nat.le_of_ble_eq_true rfl) rfl rfl (fun E X hr => ?_)
  have i1 : ∀ w ∈ wsX10, w ∈ wsX1_weigh := by decide +kernel
  have i4 : ∀ w ∈ wsX40, w ∈ wsX1_weigh := by decide +kernel
  refine g_rg (fun hR0 => ?_)
  have hn := hT0.2.1
  have hm := hT0.1
  have hp := p2_n (n := σ (TB 0) 1) hn
  refine g_iconst X dX1_weigh_0 ?_
  refine g_aload0 X dX1_weigh_1 ?_
  refine gf_1_table X i1 (by decide +kernel) dX1_weigh_2 ?_
  refine gf_4_tasks X (by omega) i4 (by decide +kernel) dX1_weigh_5 ?_
  refine g_ishl X (b_shl (by omega)) dX1_weigh_8 ?_
  refine g_istore2 X dX1_weigh_9 (by decide) (by first | exact Or.inl rfl | exact Or.inr ⟨_, rfl, rfl⟩) ?_
  refine g_iconst X dX1_weigh_10 ?_
  refine g_istore3 X dX1_weigh_11 (by decide) (by first | exact Or.inl rfl | exact Or.inr ⟨_, rfl, rfl⟩) ?_
  have L12 : ∀ (n12 : Nat) (i : Int) (σ1 : St) (u4 u5 : Option Value), (p2 (σ (TB 0) 1) - i).toNat < n12 → (0 ≤ i ∧ i ≤ p2 (σ (TB 0) 1)) → (∀ q k, q ≠ LR (σ (TB 0) 0) → σ1 q k = σ q k) → (∀ k, 0 ≤ k → k < i → σ1 (LR (σ (TB 0) 0)) k = 0) → WG E ad 6 σ1 12 [some (.ref (ad 3)), some (.int (iI wk)), some (.int (iI (p2 (σ (TB 0) 1)))), some (.int (iI i)), u4, u5] [] := by
    intro n12
    induction n12 with
    | zero => intro i σ1 u4 u5 hn; exact absurd hn (Nat.not_lt_zero _)
    | succ n12 ih12 =>
      intro i σ1 u4 u5 hn12 hi hf hz
      refine g_rg (fun hRL12 => ?_)
      have e0 : σ1 (TB 0) 0 = σ (TB 0) 0 := hf _ _ (tb_lr hm.1)
      refine g_iload3 X dX1_weigh_12 ?_
      refine g_iload2 X dX1_weigh_13 ?_
      refine g_icmp_ge (tgt := 38) X (by first | exact hRL12 _ _ | exact hR0 _ _ | assumption | (unfold InR; omega)) (by first | exact hRL12 _ _ | exact hR0 _ _ | assumption | (unfold InR; omega)) dX1_weigh_14 (by decide) (fun h14 => ?_) (fun h14 => ?_)
      · skip
        have e0 : σ1 (TB 0) 0 = σ (TB 0) 0 := hf _ _ (tb_lr hm.1)
        refine g_aload0 X dX1_weigh_38 ?_
        refine gf_1_table X i1 (by decide +kernel) dX1_weigh_39 ?_
        refine gf_4_workers X (by omega) i4 (by decide +kernel) dX1_weigh_42 ?_
        refine g_iconst X dX1_weigh_45 ?_
        refine g_isub X dX1_weigh_46 ?_
        refine g_istore3 X dX1_weigh_47 (by decide) (by first | exact Or.inl rfl | exact Or.inr ⟨_, rfl, rfl⟩) ?_
        have L48 : ∀ (n48 : Nat) (w : Int) (σ1 : St) (u4 u5 : Option Value), (w + 1).toNat < n48 → (-1 ≤ w ∧ w < σ (TB 0) 0) → (FR σ σ1) → (∀ v k, w < v → v ≤ σ (TB 0) 0 → 0 ≤ k → k < p2 (σ (TB 0) 1) → σ1 (LR v) k = RW σ wk v k) → WG E ad 6 σ1 48 [some (.ref (ad 3)), some (.int (iI wk)), some (.int (iI (p2 (σ (TB 0) 1)))), some (.int (iI w)), u4, u5] [] := by
          intro n48
          induction n48 with
          | zero => intro w σ1 u4 u5 hn; exact absurd hn (Nat.not_lt_zero _)
          | succ n48 ih48 =>
            intro w σ1 u4 u5 hn48 hw hF hrw
            refine g_rg (fun hRL48 => ?_)
            refine g_iload3 X dX1_weigh_48 ?_
            refine g_if_lt (tgt := 124) X (by first | exact hRL48 _ _ | exact hRL12 _ _ | exact hR0 _ _ | assumption | (unfold InR; omega)) dX1_weigh_49 (by decide) (fun h49 => ?_) (fun h49 => ?_)
            · skip
              exact g_vret X hr ⟨hF, fun v k h1 h2 h3 h4 => hrw v k (by omega) h2 h3 h4⟩ dX1_weigh_124
            · skip
              have hq : 0 ≤ wk / p2 w ∧ wk / p2 w < 256 := by
                have h1 := p2_k (k := w) (by omega)
                exact ⟨Int.ediv_nonneg hwk.1 (by omega), Int.lt_of_le_of_lt (Int.ediv_le_self _ hwk.1) (by omega)⟩
              have hb1 : wk / p2 w % 2 = bt wk w := rfl
              have hb01 := bt_01 wk w
              have J66 : ∀ b : Int, b = bt wk w → WG E ad 6 σ1 66 [some (.ref (ad 3)), some (.int (iI wk)), some (.int (iI (p2 (σ (TB 0) 1)))), some (.int (iI w)), u4, u5] [.int (iI b)] := by
                intro b hb
                refine g_istore4 X dX1_weigh_66 (by decide) (by first | exact Or.inl rfl | exact Or.inr ⟨_, rfl, rfl⟩) ?_
                refine g_iconst X dX1_weigh_68 ?_
                refine g_istore5 X dX1_weigh_69 (by decide) (by first | exact Or.inl rfl | exact Or.inr ⟨_, rfl, rfl⟩) ?_
                have L71 : ∀ (n71 : Nat) (tk : Int) (σ2 : St), (p2 (σ (TB 0) 1) - tk).toNat < n71 → (0 ≤ tk ∧ tk ≤ p2 (σ (TB 0) 1)) → (FR σ σ2) → (∀ v k, w < v → v ≤ σ (TB 0) 0 → 0 ≤ k → k < p2 (σ (TB 0) 1) → σ2 (LR v) k = RW σ wk v k) → (∀ k, 0 ≤ k → k < tk → σ2 (LR w) k = RW σ wk w k) → WG E ad 6 σ2 71 [some (.ref (ad 3)), some (.int (iI wk)), some (.int (iI (p2 (σ (TB 0) 1)))), some (.int (iI w)), some (.int (iI b)), some (.int (iI tk))] [] := by
                  intro n71
                  induction n71 with
                  | zero => intro tk σ2 hn; exact absurd hn (Nat.not_lt_zero _)
                  | succ n71 ih71 =>
                    intro tk σ2 hn71 hi2 hF2 hr2 hz2
                    refine g_rg (fun hRL71 => ?_)
                    have e20 : σ2 (TB 0) 0 = σ (TB 0) 0 := hF2 _ _ (by unfold TB; omega)
                    have e21 : σ2 (TB 0) 1 = σ (TB 0) 1 := hF2 _ _ (by unfold TB; omega)
                    refine g_iload5 X dX1_weigh_71 ?_
                    refine g_iload2 X dX1_weigh_73 ?_
                    refine g_icmp_ge (tgt := 118) X (by first | exact hRL71 _ _ | exact hRL48 _ _ | exact hRL12 _ _ | exact hR0 _ _ | assumption | (unfold InR; omega)) (by first | exact hRL71 _ _ | exact hRL48 _ _ | exact hRL12 _ _ | exact hR0 _ _ | assumption | (unfold InR; omega)) dX1_weigh_74 (by decide) (fun h74 => ?_) (fun h74 => ?_)
                    · skip
                      refine g_iinc3 X dX1_weigh_118 (by decide) (by first | exact Or.inl rfl | exact Or.inr ⟨_, rfl, rfl⟩) ?_
                      refine g_goto (tgt := 48) X dX1_weigh_121 (by decide) ?_
                      refine ih48 _ _ _ _ (by omega) ?_ ?_ ?_
                      · omega
                      · exact hF2
                      · intro v k h1 h2 h3 h4
                        by_cases hv : v = w
                        · rw [hv]
                          exact hz2 k h3 (by omega)
                        · exact hr2 v k (by omega) h2 h3 h4
                    · skip
                      have hTk : TOK σ2 0 := hT0.of hF2
                      have hLb : LB σ2 (w + 1) := fun k h1 h2 => by
                        rw [e21] at h2
                        rw [hr2 (w + 1) k (by omega) (by omega) h1 h2]
                        have := RW_b hT0 wk (w + 1) k (by omega)
                        omega
                      have e22 : p2 (σ2 (TB 0) 1) = p2 (σ (TB 0) 1) := by rw [e21]
                      have e9 : ∀ a j : Int, 0 ≤ j → j < σ (TB 0) 1 → min a (tF σ2 w j tk) = min a (if σ (TR 0 w) j = -1 ∨ bt tk j = 1 then 1000000 else σ (TR 0 w) j + RW σ wk (w + 1) (sb tk j)) := fun a j h1 h2 => by
                        have hs := sb_lt (n := σ (TB 0) 1) (m := tk) (by omega) (k := j) (by omega) (by omega)
                        unfold tF
                        rw [hF2 (TR 0 w) j (by unfold TR; omega), hr2 (w + 1) (sb tk j) (by omega) (by omega) hs.1 hs.2]
                      have J111 : ∀ v : Int, v = RW σ wk w tk → WG E ad 6 σ2 111 [some (.ref (ad 3)), some (.int (iI wk)), some (.int (iI (p2 (σ (TB 0) 1)))), some (.int (iI w)), some (.int (iI b)), some (.int (iI tk))] [.int (iI v), .int (iI tk), .ref (ad (LR w))] := by
                        intro v hv
                        have hvb := RW_b hT0 wk w tk (by omega)
                        refine g_iast X (ia_LR (by omega) (by omega)) (by first | exact hRL71 _ _ | exact hRL48 _ _ | exact hRL12 _ _ | exact hR0 _ _ | assumption | (unfold InR; omega)) dX1_weigh_111 ?_
                        refine g_rg (fun hR111 => ?_)
                        refine g_iinc5 X dX1_weigh_112 (by decide) (by first | exact Or.inl rfl | exact Or.inr ⟨_, rfl, rfl⟩) ?_
                        refine g_goto (tgt := 71) X dX1_weigh_115 (by decide) ?_
                        refine ih71 _ _ (by omega) ?_ ?_ ?_ ?_
                        · omega
                        · intro q k hq
                          unfold up
                          rw [if_neg (by unfold LR; omega)]
                          exact hF2 q k hq
                        · intro v k h1 h2 h3 h4
                          unfold up
                          rw [if_neg (by unfold LR; omega)]
                          exact hr2 v k h1 h2 h3 h4
                        · intro k h1 h2
                          unfold up
                          by_cases hk : k = tk
                          · rw [if_pos ⟨rfl, hk⟩, hv, hk]
                          · rw [if_neg (fun h => hk h.2)]
                            exact hz2 k h1 (by omega)
                      refine g_aload0 X dX1_weigh_77 ?_
                      refine gf_1_least X i1 (by decide +kernel) dX1_weigh_78 ?_
                      refine g_iload3 X dX1_weigh_81 ?_
                      refine g_aald_5 X (by omega) dX1_weigh_82 ?_
                      refine g_iload5 X dX1_weigh_83 ?_
                      refine g_iload4 X dX1_weigh_85 ?_
                      refine g_if_eq (tgt := 100) X (by first | exact hRL71 _ _ | exact hRL48 _ _ | exact hRL12 _ _ | exact hR0 _ _ | assumption | (unfold InR; omega)) dX1_weigh_87 (by decide) (fun h87 => ?_) (fun h87 => ?_)
                      · skip
                        refine g_aload0 X dX1_weigh_100 ?_
                        refine gf_1_least X i1 (by decide +kernel) dX1_weigh_101 ?_
                        refine g_iload3 X dX1_weigh_104 ?_
                        refine g_iconst X dX1_weigh_105 ?_
                        refine g_iadd X dX1_weigh_106 ?_
                        refine g_aald_5 X (by omega) dX1_weigh_107 ?_
                        refine g_iload5 X dX1_weigh_108 ?_
                        refine g_iald X (ia_LR (by omega) (by omega)) dX1_weigh_110 ?_
                        refine J111 _ ?_
                        first
                          | (rw [RW_step ⟨by omega, by omega⟩, if_pos (by omega)]
                             unfold lF
                             rw [e21, FI_congrI hn.1 e9, hF2 (TI 0) w (by unfold TI; omega), hr2 (w + 1) tk (by omega) (by omega) (by omega) (by omega)])
                          | (rw [RW_step ⟨by omega, by omega⟩, if_neg (by omega)]
                             exact hr2 (w + 1) tk (by omega) (by omega) (by omega) (by omega))
                      · skip
                        refine g_aload0 X dX1_weigh_90 ?_
                        refine g_iload3 X dX1_weigh_91 ?_
                        refine g_iload5 X dX1_weigh_92 ?_
                        refine g_F2 X (k_X1_leastFrom E hTk (by omega) (by omega) hLb) gX1_weigh_X1_leastFrom rfl (by decide +kernel) (by decide) ob_3 (Nat.le_of_ble_eq_true rfl) dX1_weigh_94 (fun hz94 => ?_)
                        refine g_rg (fun hR94 => ?_)
                        refine g_goto (tgt := 111) X dX1_weigh_97 (by decide) ?_
                        refine J111 _ ?_
                        first
                          | (rw [RW_step ⟨by omega, by omega⟩, if_pos (by omega)]
                             unfold lF
                             rw [e21, FI_congrI hn.1 e9, hF2 (TI 0) w (by unfold TI; omega), hr2 (w + 1) tk (by omega) (by omega) (by omega) (by omega)])
                          | (rw [RW_step ⟨by omega, by omega⟩, if_neg (by omega)]
                             exact hr2 (w + 1) tk (by omega) (by omega) (by omega) (by omega))
                refine L71 _ _ _ (Nat.lt_succ_self _) ?_ ?_ ?_ ?_
                · omega
                · exact hF
                · exact hrw
                · intro k h1 h2
                  omega
              refine g_iload1 X dX1_weigh_52 ?_
              refine g_iload3 X dX1_weigh_53 ?_
              refine g_ishr X (b_shr (by omega) (by omega)) dX1_weigh_54 ?_
              refine g_iconst X dX1_weigh_55 ?_
              refine g_iand X (b_and1 (by omega)) dX1_weigh_56 ?_
              refine g_iconst X dX1_weigh_57 ?_
              refine g_icmp_ne (tgt := 65) X (by first | exact hRL48 _ _ | exact hRL12 _ _ | exact hR0 _ _ | assumption | (unfold InR; omega)) (by first | exact hRL48 _ _ | exact hRL12 _ _ | exact hR0 _ _ | assumption | (unfold InR; omega)) dX1_weigh_58 (by decide) (fun h58 => ?_) (fun h58 => ?_)
              · skip
                refine g_iconst X dX1_weigh_65 ?_
                exact J66 _ (by omega)
              · skip
                refine g_iconst X dX1_weigh_61 ?_
                refine g_goto (tgt := 66) X dX1_weigh_62 (by decide) ?_
                exact J66 _ (by omega)
        refine L48 _ _ _ _ _ (Nat.lt_succ_self _) ?_ ?_ ?_
        · omega
        · intro q k hq
          exact hf q k (by unfold LR; omega)
        · intro v k h1 h2 h3 h4
          rw [show v = σ (TB 0) 0 by omega, RW_end]
          exact hz k h3 (by omega)
      · skip
        refine g_aload0 X dX1_weigh_17 ?_
        refine gf_1_least X i1 (by decide +kernel) dX1_weigh_18 ?_
        refine g_aload0 X dX1_weigh_21 ?_
        refine gf_1_table X i1 (by decide +kernel) dX1_weigh_22 ?_
        refine gf_4_workers X (by omega) i4 (by decide +kernel) dX1_weigh_25 ?_
        refine g_aald_5 X (by omega) dX1_weigh_28 ?_
        refine g_iload3 X dX1_weigh_29 ?_
        refine g_iconst X dX1_weigh_30 ?_
        refine g_iast X (ia_LR (by omega) (by omega)) (by first | exact hRL12 _ _ | exact hR0 _ _ | assumption | (unfold InR; omega)) dX1_weigh_31 ?_
        refine g_rg (fun hR31 => ?_)
        refine g_iinc3 X dX1_weigh_32 (by decide) (by first | exact Or.inl rfl | exact Or.inr ⟨_, rfl, rfl⟩) ?_
        refine g_goto (tgt := 12) X dX1_weigh_35 (by decide) ?_
        refine ih12 _ _ _ _ (by omega) ?_ ?_ ?_
        · omega
        · intro q k hq
          unfold up
          rw [e0, if_neg (fun h => hq h.1)]
          exact hf q k hq
        · intro k h1 h2
          unfold up
          rw [e0]
          by_cases hk : k = i
          · rw [if_pos ⟨rfl, hk⟩]
          · rw [if_neg (fun h => hk h.2)]
            exact hz k h1 (by omega)
  refine L12 _ _ _ _ _ (Nat.lt_succ_self _) ?_ ?_ ?_
  · omega
  · intro q k _
    rfl
  · intro k h1 h2
    omega
