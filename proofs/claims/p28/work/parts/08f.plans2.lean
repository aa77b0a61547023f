/-! MY CONTRACTS: the plans, what rests on the weighing -/
theorem LT_congr {d d' : Int → Int} {c c' : Int → Int → Int} {n : Int} (hn : 0 ≤ n) : ∀ (ws : List Int), (∀ w ∈ ws, d w = d' w) → (∀ w ∈ ws, ∀ j, 0 ≤ j → j < n → c w j = c' w j) → ∀ tk, LT d c n ws tk = LT d' c' n ws tk := by
  intro ws
  induction ws with
  | nil => intro _ _ tk; rfl
  | cons w ws ih =>
    intro hd hc tk
    have ih' := ih (fun v hv => hd v (List.mem_cons_of_mem _ hv)) (fun v hv => hc v (List.mem_cons_of_mem _ hv))
    show FI _ _ n = FI _ _ n
    rw [hd w List.mem_cons_self, ih' tk]
    refine FI_congrI hn (fun a j h0 hj => ?_)
    rw [hc w List.mem_cons_self j h0 hj, ih' (sb tk j)]
theorem RW_FR {σ σ' : St} (hT : TOK σ 0) (hF : FR σ σ') (wk w tk : Int) (hw : 0 ≤ w) : RW σ' wk w tk = RW σ wk w tk := by
  have e0 : σ' (TB 0) 0 = σ (TB 0) 0 := hF _ _ (by unfold TB; omega)
  have e1 : σ' (TB 0) 1 = σ (TB 0) 1 := hF _ _ (by unfold TB; omega)
  have hm := hT.1
  unfold RW LTc
  rw [e0, e1]
  refine LT_congr hT.2.1.1 _ (fun v hv => hF _ _ (by unfold TI; omega)) (fun v hv j _ _ => hF _ _ ?_) tk
  have := wl_in _ v hv
  unfold TR
  omega
theorem WP.rows {σ σ' : St} {wk : Int} (hT : TOK σ 0) (h : WP σ wk σ') (w : Int) (hw : 0 ≤ w ∧ w ≤ σ (TB 0) 0) : LB σ' w := fun k h1 h2 => by
  have e1 : σ' (TB 0) 1 = σ (TB 0) 1 := h.1 _ _ (by unfold TB; omega)
  rw [e1] at h2
  rw [h.2 w k hw.1 hw.2 h1 h2]
  have := RW_b hT wk w k hw.1
  omega
def AW (σ : St) : Int := p2 (σ (TB 0) 0) - 1
theorem AW_b {σ : St} (hT : TOK σ 0) : 0 ≤ AW σ ∧ AW σ < 128 := by
  have := p2_n hT.1
  unfold AW
  omega
def mk (j : Int) : Int := if j = -1 then 0 else p2 j
theorem mk_b {j n : Int} (hj : -1 ≤ j ∧ j < n) (hn : n ≤ 7) (h0 : 0 ≤ n) : 0 ≤ mk j ∧ mk j < p2 n := by
  unfold mk
  have h2 := p2_n (n := n) ⟨h0, hn⟩
  by_cases h : j = -1
  · rw [if_pos h]; omega
  · rw [if_neg h]
    have h1 := p2_lt (k := j) (n := n) (by omega) hj.2 (by omega)
    have h3 := p2_k (k := j) (by omega)
    omega
def tW (σ : St) (w j : Int) : Int := cW σ 0 w j + σ (LR 0) (mk j)
theorem cW_b {σ : St} (hT : TOK σ 0) {w j : Int} (hw : 0 ≤ w ∧ w < 7) (hj : -1 ≤ j ∧ j < 7) : -1 ≤ cW σ 0 w j ∧ cW σ 0 w j ≤ 9999 := by
  unfold cW
  by_cases h : j = -1
  · rw [if_pos h]; have := hT.2.2.1 w hw.1 hw.2; omega
  · rw [if_neg h]; exact hT.2.2.2 w j hw.1 hw.2 (by omega) hj.2
theorem tW_b {σ : St} (hT : TOK σ 0) (hLb : LB σ 0) {w j : Int} (hw : 0 ≤ w ∧ w < 7) (hj : -1 ≤ j ∧ j < σ (TB 0) 1) : -1 ≤ tW σ w j ∧ tW σ w j ≤ 80000 := by
  have h1 := cW_b hT hw (j := j) (by have := hT.2.1; omega)
  have h2 := mk_b hj hT.2.1.2 hT.2.1.1
  have h3 := hLb _ h2.1 h2.2
  unfold tW
  omega
def tO (σ : St) (w j i : Int) : Int := FI (fun a i => if i - 1 = j ∨ isB σ 0 w (i - 1) = 1 then a else min a (tW σ w (i - 1))) 1000000 i
theorem tO_s {σ : St} {w j i : Int} (h : 0 ≤ i) : tO σ w j (i + 1) = if i - 1 = j ∨ isB σ 0 w (i - 1) = 1 then tO σ w j i else min (tO σ w j i) (tW σ w (i - 1)) := FI_s h
/-- the same, told by the least totals -/
def tOk (σ : St) (wk w j : Int) : Int := FI (fun a i => if i - 1 = j ∨ isB σ 0 w (i - 1) = 1 then a else min a (cW σ 0 w (i - 1) + RW σ wk 0 (mk (i - 1)))) 1000000 (σ (TB 0) 1 + 1)
theorem tO_of {σ σ' : St} {wk w j : Int} (hT : TOK σ 0) (h : WP σ wk σ') (hw : 0 ≤ w ∧ w < 7) : tO σ' w j (σ' (TB 0) 1 + 1) = tOk σ wk w j := by
  have e1 : σ' (TB 0) 1 = σ (TB 0) 1 := h.1 _ _ (by unfold TB; omega)
  have hn := hT.2.1
  unfold tO tOk
  rw [e1]
  refine FI_congrI (by omega) (fun a i h0 hi => ?_)
  have hmk := mk_b (j := i - 1) (n := σ (TB 0) 1) (by omega) (by omega) (by omega)
  have eB : isB σ' 0 w (i - 1) = isB σ 0 w (i - 1) := by
    unfold isB
    rw [h.1 (TR 0 w) _ (by unfold TR; omega)]
  have eC : cW σ' 0 w (i - 1) = cW σ 0 w (i - 1) := by
    unfold cW
    rw [h.1 (TR 0 w) _ (by unfold TR; omega), h.1 (TI 0) _ (by unfold TI; omega)]
  unfold tW
  rw [eB, eC, h.2 0 _ (by omega) hT.1.1 hmk.1 hmk.2]
theorem tOk_b {σ : St} {wk w j : Int} (hT : TOK σ 0) (hw : 0 ≤ w ∧ w < 7) : -1 ≤ tOk σ wk w j ∧ tOk σ wk w j ≤ 1000000 := by
  have hn := hT.2.1
  obtain ⟨n, hn2⟩ := Int.eq_ofNat_of_zero_le (show 0 ≤ σ (TB 0) 1 + 1 by omega)
  unfold tOk
  rw [hn2]
  have hk : (n : Int) ≤ σ (TB 0) 1 + 1 := by omega
  clear hn2
  induction n with
  | zero => exact ⟨by show (-1 : Int) ≤ 1000000; omega, Int.le_refl _⟩
  | succ n ih =>
    have e : ((n + 1 : Nat) : Int) = (n : Int) + 1 := by omega
    rw [e, FI_s (by omega)]
    have ih' := ih (by omega)
    by_cases hc : (n : Int) - 1 = j ∨ isB σ 0 w ((n : Int) - 1) = 1
    · rw [if_pos hc]; exact ih'
    · rw [if_neg hc]
      have h1 := cW_b hT hw (j := (n : Int) - 1) (by omega)
      have h2 := RW_b hT wk 0 (mk ((n : Int) - 1)) (by omega)
      omega
/-- the first of n that P holds of, or -1 -/
def fsP (P : Int → Bool) (n : Int) : Nat → Int
  | 0 => -1
  | k + 1 => if P (n - (k + 1)) = true then n - (k + 1) else fsP P n k
theorem fsP_s {P : Int → Bool} {n i : Int} (hi : 0 ≤ i ∧ i < n) : fsP P n (n - i).toNat = if P i = true then i else fsP P n (n - (i + 1)).toNat := by
  have e : (n - i).toNat = (n - (i + 1)).toNat + 1 := by omega
  have e2 : n - (((n - (i + 1)).toNat : Int) + 1) = i := by omega
  rw [e]
  show (if P (n - (((n - (i + 1)).toNat : Int) + 1)) = true then n - (((n - (i + 1)).toNat : Int) + 1) else _) = _
  rw [e2]
theorem fsP_r {P : Int → Bool} {n : Int} : ∀ (k : Nat), (k : Int) ≤ n → -1 ≤ fsP P n k ∧ fsP P n k < n ∨ (fsP P n k = -1 ∧ n = 0) := by
  intro k
  induction k with
  | zero => intro h; show (-1 ≤ (-1 : Int) ∧ (-1 : Int) < n) ∨ ((-1 : Int) = -1 ∧ n = 0); omega
  | succ k ih =>
    intro h
    have ih' := ih (by omega)
    unfold fsP
    by_cases hp : P (n - (k + 1)) = true
    · rw [if_pos hp]; omega
    · rw [if_neg hp]; exact ih'
theorem fsP_congr {P Q : Int → Bool} {n : Int} : ∀ (k : Nat), (k : Int) ≤ n → (∀ j, 0 ≤ j → j < n → P j = Q j) → fsP P n k = fsP Q n k := by
  intro k
  induction k with
  | zero => intro _ _; rfl
  | succ k ih =>
    intro h hP
    unfold fsP
    rw [hP _ (by omega) (by omega), ih (by omega) hP]
def fB (σ : St) (w tk : Int) : Int := fsP (fun j => decide (tF σ w j tk = σ (LR w) tk)) (σ (TB 0) 1) (σ (TB 0) 1).toNat
/-- the first plan, told by the least totals: the task of w, if tk are gone -/
def tFm (σ : St) (wk w j tk : Int) : Int := if σ (TR 0 w) j = -1 ∨ bt tk j = 1 then 1000000 else σ (TR 0 w) j + RW σ wk (w + 1) (sb tk j)
def fpk (σ : St) (w tk : Int) : Int := fsP (fun j => decide (tFm σ (AW σ) w j tk = RW σ (AW σ) w tk)) (σ (TB 0) 1) (σ (TB 0) 1).toNat
def tkS (σ : St) (i : Int) : Int := FI (fun tk w => if fpk σ w tk = -1 then tk else sb tk (fpk σ w tk)) 0 i
theorem tkS_s {σ : St} {i : Int} (h : 0 ≤ i) : tkS σ (i + 1) = if fpk σ i (tkS σ i) = -1 then tkS σ i else sb (tkS σ i) (fpk σ i (tkS σ i)) := FI_s h
def fP (σ : St) (w : Int) : Int := fpk σ w (tkS σ w)
theorem fpk_r {σ : St} (hT : TOK σ 0) (w tk : Int) : -1 ≤ fpk σ w tk ∧ (fpk σ w tk < σ (TB 0) 1 ∨ fpk σ w tk = -1) := by
  have := fsP_r (P := fun j => decide (tFm σ (AW σ) w j tk = RW σ (AW σ) w tk)) (n := σ (TB 0) 1) (σ (TB 0) 1).toNat (by have := hT.2.1; omega)
  unfold fpk
  omega
theorem fB_of {σ σ' : St} {w tk : Int} (hT : TOK σ 0) (hF : ∀ q k, q < 71 → q ≠ 3 → q ≠ 4 → σ' q k = σ q k) (hr : ∀ w tk, 0 ≤ w → w ≤ σ (TB 0) 0 → 0 ≤ tk → tk < p2 (σ (TB 0) 1) → σ' (LR w) tk = RW σ (AW σ) w tk) (hw : 0 ≤ w ∧ w < σ (TB 0) 0) (htk : 0 ≤ tk ∧ tk < p2 (σ (TB 0) 1)) : fB σ' w tk = fpk σ w tk := by
  have e1 : σ' (TB 0) 1 = σ (TB 0) 1 := hF _ _ (by unfold TB; omega) (by unfold TB; omega) (by unfold TB; omega)
  have hn := hT.2.1
  have hm := hT.1
  unfold fB fpk
  rw [e1]
  refine fsP_congr _ (by omega) (fun j h1 h2 => ?_)
  have hs := sb_lt (n := σ (TB 0) 1) htk (k := j) (by omega) (by omega)
  have e2 : tF σ' w j tk = tFm σ (AW σ) w j tk := by
    unfold tF tFm
    rw [hF (TR 0 w) j (by unfold TR; omega) (by unfold TR; omega) (by unfold TR; omega), hr (w + 1) (sb tk j) (by omega) (by omega) hs.1 hs.2]
  rw [e2, hr w tk (by omega) (by omega) htk.1 htk.2]
def CH (σ σ' : St) : Prop := (∀ q k, q ≠ 3 → q ≠ 4 → (q < 71 ∨ 79 ≤ q) → σ' q k = σ q k) ∧ σ' 3 1 = RW σ (AW σ) 0 0 ∧ ∀ w, 0 ≤ w → w < σ (TB 0) 0 → σ' 4 w = fP σ w
def cP (σ : St) (i : Int) : Int := FI (fun a w => if σ 4 w = -1 then a else a + 1) 0 i
theorem cP_s {σ : St} {i : Int} (h : 0 ≤ i) : cP σ (i + 1) = if σ 4 i = -1 then cP σ i else cP σ i + 1 := FI_s h
/-- a chosen plan is there -/
def CHP (σ : St) : Prop := (0 ≤ σ 3 1 ∧ σ 3 1 ≤ 70000) ∧ ∀ w, 0 ≤ w → w < σ (TB 0) 0 → -1 ≤ σ 4 w ∧ (σ 4 w < σ (TB 0) 1 ∨ σ 4 w = -1)
def rmO (σ : St) (w : Int) : Int := if σ 4 w = -1 then -1 else tOk σ (ub (AW σ) w) w (σ 4 w) - σ 3 1
def moS (σ : St) (i : Int) : Int := FI (fun a w => if a < rmO σ w then rmO σ w else a) (-1) i
theorem moS_s {σ : St} {i : Int} (h : 0 ≤ i) : moS σ (i + 1) = if moS σ i < rmO σ i then rmO σ i else moS σ i := FI_s h
def deS (σ : St) (i : Int) : Int := FI (fun a w => if moS σ w < rmO σ w then w else a) (-1) i
theorem deS_s {σ : St} {i : Int} (h : 0 ≤ i) : deS σ (i + 1) = if moS σ i < rmO σ i then i else deS σ i := FI_s h
theorem ub_AW {σ : St} (hT : TOK σ 0) {w : Int} (hw : 0 ≤ w ∧ w < 7) : 0 ≤ ub (AW σ) w ∧ ub (AW σ) w < 128 := by
  have h1 := AW_b hT
  have h2 := ub_lt (m := AW σ) (k := w) (n := 8) (by have h3 : p2 8 = 256 := rfl; omega) (by omega) (by omega)
  omega
theorem tOk_FR {σ σ' : St} {wk w j : Int} (hT : TOK σ 0) (hF : FR σ σ') (hw : 0 ≤ w ∧ w < 7) : tOk σ' wk w j = tOk σ wk w j := by
  have e1 : σ' (TB 0) 1 = σ (TB 0) 1 := hF _ _ (by unfold TB; omega)
  have hn := hT.2.1
  unfold tOk
  rw [e1]
  refine FI_congrI (by omega) (fun a i h0 hi => ?_)
  have eB : isB σ' 0 w (i - 1) = isB σ 0 w (i - 1) := by
    unfold isB
    rw [hF (TR 0 w) _ (by unfold TR; omega)]
  have eC : cW σ' 0 w (i - 1) = cW σ 0 w (i - 1) := by
    unfold cW
    rw [hF (TR 0 w) _ (by unfold TR; omega), hF (TI 0) _ (by unfold TI; omega)]
  rw [eB, eC, RW_FR hT hF wk 0 _ (by omega)]
theorem AW_FR {σ σ' : St} (hF : FR σ σ') : AW σ' = AW σ := by
  unfold AW
  rw [hF (TB 0) 0 (by unfold TB; omega)]
theorem rmO_FR {σ σ' : St} {w : Int} (hT : TOK σ 0) (hF : FR σ σ') (hw : 0 ≤ w ∧ w < 7) : rmO σ' w = rmO σ w := by
  unfold rmO
  rw [hF 4 w (by omega), hF 3 1 (by omega), AW_FR hF, tOk_FR hT hF hw]
set_option maxHeartbeats 4000000 in
set_option maxRecDepth 100000 in
theorem k_X1_leastTotalOf (E0 : EV) {ad : Int → Nat} {σ : St} {wk : Int} (hT0 : TOK σ 0) (hwk : 0 ≤ wk ∧ wk < 256) : MGE E0 yX1_leastTotalOf wsX1_leastTotalOf 3 73 ad σ [.ref (ad 3), .int (iI wk)] (PI (fun z σ' => z = RW σ wk 0 0 ∧ WP σ wk σ')) := by
  refine MGE.of (cc := cX1_leastTotalOf) (maxL := 2) (ret := (some .int)) (own := RX1) [some (.ref (ad 3)), some (.int (iI wk))] (by decide +kernel) rfl rfl (Nat.le_of_ble_eq_true rfl) rfl rfl (fun E X hr => ?_)
  have i1 : ∀ w ∈ wsX10, w ∈ wsX1_leastTotalOf := by decide +kernel
  refine g_rg (fun hR0 => ?_)
  refine g_aload0 X dX1_leastTotalOf_0 ?_
  refine g_iload1 X dX1_leastTotalOf_1 ?_
  refine g_V1 X (k_X1_weigh E hT0 (by omega)) gX1_leastTotalOf_X1_weigh rfl (by decide +kernel) (by decide) ob_3 (Nat.le_of_ble_eq_true rfl) dX1_leastTotalOf_2 (fun σ2 hp2 => ?_)
  refine g_rg (fun hR2 => ?_)
  refine g_aload0 X dX1_leastTotalOf_5 ?_
  refine gf_1_least X i1 (by decide +kernel) dX1_leastTotalOf_6 ?_
  refine g_iconst X dX1_leastTotalOf_9 ?_
  refine g_aald_5 X (by omega) dX1_leastTotalOf_10 ?_
  refine g_iconst X dX1_leastTotalOf_11 ?_
  refine g_iald X (ia_LR (by omega) (by omega)) dX1_leastTotalOf_12 ?_
  exact g_iret X hr (by first | exact hR2 _ _ | exact hR0 _ _ | assumption | (unfold InR; omega)) ⟨hp2.2 0 0 (by omega) hT0.1.1 (by omega) (by have := p2_n hT0.2.1; omega), hp2⟩ dX1_leastTotalOf_13

set_option maxHeartbeats 4000000 in
set_option maxRecDepth 100000 in
theorem k_X1_leastTotal (E0 : EV) {ad : Int → Nat} {σ : St} (hT0 : TOK σ 0) : MGE E0 yX1_leastTotal wsX1_leastTotal 4 94 ad σ [.ref (ad 3)] (PI (fun z σ' => z = RW σ (AW σ) 0 0 ∧ WP σ (AW σ) σ')) := by
  refine MGE.of (cc := cX1_leastTotal) (maxL := 1) (ret := (some .int)) (own := RX1) [some (.ref (ad 3))] (by decide +kernel) rfl rfl (Nat.le_of_ble_eq_true rfl) rfl rfl (fun E X hr => ?_)
  have i1 : ∀ w ∈ wsX10, w ∈ wsX1_leastTotal := by decide +kernel
  refine g_rg (fun hR0 => ?_)
  have hm := hT0.1
  have ha := AW_b hT0
  unfold AW at ha
  refine g_aload0 X dX1_leastTotal_0 ?_
  refine g_aload0 X dX1_leastTotal_1 ?_
  refine gf_1_table X i1 (by decide +kernel) dX1_leastTotal_2 ?_
  refine g_F0 X (k_X4_allWorkers E (by omega) (by omega)) gX1_leastTotal_X4_allWorkers rfl (by decide +kernel) (by decide) (ob_TB (by omega)) (Nat.le_of_ble_eq_true rfl) dX1_leastTotal_5 (fun hz5 => ?_)
  refine g_rg (fun hR5 => ?_)
  refine g_I1 X (k_X1_leastTotalOf E hT0 (by omega)) gX1_leastTotal_X1_leastTotalOf rfl (by decide +kernel) (by decide) ob_3 (Nat.le_of_ble_eq_true rfl) dX1_leastTotal_8 (fun z8 σ8 hz8 hp8 => ?_)
  refine g_rg (fun hR8 => ?_)
  exact g_iret X hr (by first | exact hR8 _ _ | exact hR5 _ _ | exact hR0 _ _ | assumption | (unfold InR; omega)) hp8 dX1_leastTotal_11

set_option maxHeartbeats 4000000 in
set_option maxRecDepth 100000 in
theorem k_X1_lossWithoutTask (E0 : EV) {ad : Int → Nat} {σ : St} {j : Int} (hT0 : TOK σ 0) (hj : 0 ≤ j ∧ j < σ (TB 0) 1) : MGE E0 yX1_lossWithoutTask wsX1_lossWithoutTask 3 73 ad σ [.ref (ad 3), .int (iI j)] (PI (fun z σ' => z = RW σ (AW σ) 0 (p2 j) - RW σ (AW σ) 0 0 ∧ FR σ σ')) := by
  refine MGE.of (cc := cX1_lossWithoutTask) (maxL := 2) (ret := (some .int)) (own := RX1) [some (.ref (ad 3)), some (.int (iI j))] (by decide +kernel) rfl rfl (Nat.le_of_ble_eq_true rfl) rfl rfl (fun E X hr => ?_)
  have i1 : ∀ w ∈ wsX10, w ∈ wsX1_lossWithoutTask := by decide +kernel
  refine g_rg (fun hR0 => ?_)
  have hm := hT0.1
  have hn := hT0.2.1
  have ha := AW_b hT0
  unfold AW at ha
  have hp1 := p2_lt (k := j) (n := σ (TB 0) 1) hj.1 hj.2 (by omega)
  have hp2 := p2_k (k := j) (by omega)
  have hp3 := p2_n hn
  refine g_aload0 X dX1_lossWithoutTask_0 ?_
  refine g_aload0 X dX1_lossWithoutTask_1 ?_
  refine gf_1_table X i1 (by decide +kernel) dX1_lossWithoutTask_2 ?_
  refine g_F0 X (k_X4_allWorkers E (by omega) (by omega)) gX1_lossWithoutTask_X4_allWorkers rfl (by decide +kernel) (by decide) (ob_TB (by omega)) (Nat.le_of_ble_eq_true rfl) dX1_lossWithoutTask_5 (fun hz5 => ?_)
  refine g_rg (fun hR5 => ?_)
  refine g_V1 X (k_X1_weigh E hT0 (by omega)) gX1_lossWithoutTask_X1_weigh rfl (by decide +kernel) (by decide) ob_3 (Nat.le_of_ble_eq_true rfl) dX1_lossWithoutTask_8 (fun σ8 hp8 => ?_)
  refine g_rg (fun hR8 => ?_)
  have hv1 := hp8.2 0 (p2 j) (by omega) (by omega) (by omega) (by omega)
  have hv2 := hp8.2 0 0 (by omega) (by omega) (by omega) (by omega)
  have hb1 := RW_b hT0 (p2 (σ (TB 0) 0) - 1) 0 (p2 j) (by omega)
  have hb2 := RW_b hT0 (p2 (σ (TB 0) 0) - 1) 0 0 (by omega)
  refine g_aload0 X dX1_lossWithoutTask_11 ?_
  refine gf_1_least X i1 (by decide +kernel) dX1_lossWithoutTask_12 ?_
  refine g_iconst X dX1_lossWithoutTask_15 ?_
  refine g_aald_5 X (by omega) dX1_lossWithoutTask_16 ?_
  refine g_iconst X dX1_lossWithoutTask_17 ?_
  refine g_iload1 X dX1_lossWithoutTask_18 ?_
  refine g_ishl X (b_shl (by omega)) dX1_lossWithoutTask_19 ?_
  refine g_iald X (ia_LR (by omega) (by omega)) dX1_lossWithoutTask_20 ?_
  refine g_aload0 X dX1_lossWithoutTask_21 ?_
  refine gf_1_least X i1 (by decide +kernel) dX1_lossWithoutTask_22 ?_
  refine g_iconst X dX1_lossWithoutTask_25 ?_
  refine g_aald_5 X (by omega) dX1_lossWithoutTask_26 ?_
  refine g_iconst X dX1_lossWithoutTask_27 ?_
  refine g_iald X (ia_LR (by omega) (by omega)) dX1_lossWithoutTask_28 ?_
  refine g_isub X dX1_lossWithoutTask_29 ?_
  exact g_iret X hr (by first | exact hR8 _ _ | exact hR5 _ _ | exact hR0 _ _ | assumption | (unfold InR; omega)) ⟨by rw [hv1, hv2]; rfl, hp8.1⟩ dX1_lossWithoutTask_30

set_option maxHeartbeats 4000000 in
set_option maxRecDepth 100000 in
theorem k_X1_lowestBestTask (E0 : EV) {ad : Int → Nat} {σ : St} {w tk : Int} (hT0 : TOK σ 0) (hw : 0 ≤ w ∧ w < 7) (htk : 0 ≤ tk ∧ tk < p2 (σ (TB 0) 1)) (hLb : LB σ (w + 1)) : MGE E0 yX1_lowestBestTask wsX1_lowestBestTask 1 24 ad σ [.ref (ad 3), .int (iI w), .int (iI tk)] (PF (fB σ w tk) σ) := by
  refine MGE.of (cc := cX1_lowestBestTask) (maxL := 4) (ret := (some .int)) (own := RX1) [some (.ref (ad 3)), some (.int (iI w)), some (.int (iI tk)), none] (by decide +kernel) rfl rfl (Nat.le_of_ble_eq_true rfl) rfl rfl (fun E X hr => ?_)
  have i1 : ∀ w ∈ wsX10, w ∈ wsX1_lowestBestTask := by decide +kernel
  have i4 : ∀ w ∈ wsX40, w ∈ wsX1_lowestBestTask := by decide +kernel
  refine g_rg (fun hR0 => ?_)
  have hn := hT0.2.1
  refine g_iconst X dX1_lowestBestTask_0 ?_
  refine g_istore3 X dX1_lowestBestTask_1 (by decide) (by first | exact Or.inl rfl | exact Or.inr ⟨_, rfl, rfl⟩) ?_
  have L2 : ∀ (n2 : Nat) (i : Int), (σ (TB 0) 1 - i).toNat < n2 → (0 ≤ i ∧ i ≤ σ (TB 0) 1) → (fB σ w tk = fsP (fun j => decide (tF σ w j tk = σ (LR w) tk)) (σ (TB 0) 1) (σ (TB 0) 1 - i).toNat) → WG E ad 4 σ 2 [some (.ref (ad 3)), some (.int (iI w)), some (.int (iI tk)), some (.int (iI i))] [] := by
    intro n2
    induction n2 with
    | zero => intro i hn; exact absurd hn (Nat.not_lt_zero _)
    | succ n2 ih2 =>
      intro i hn2 hi hs
      refine g_rg (fun hRL2 => ?_)
      have hn := hT0.2.1
      have hp3 := p2_n hn
      refine g_iload3 X dX1_lowestBestTask_2 ?_
      refine g_aload0 X dX1_lowestBestTask_3 ?_
      refine gf_1_table X i1 (by decide +kernel) dX1_lowestBestTask_4 ?_
      refine gf_4_tasks X (by omega) i4 (by decide +kernel) dX1_lowestBestTask_7 ?_
      refine g_icmp_ge (tgt := 39) X (by first | exact hRL2 _ _ | exact hR0 _ _ | assumption | (unfold InR; omega)) (by first | exact hRL2 _ _ | exact hR0 _ _ | assumption | (unfold InR; omega)) dX1_lowestBestTask_10 (by decide) (fun h10 => ?_) (fun h10 => ?_)
      · skip
        refine g_iconst X dX1_lowestBestTask_39 ?_
        exact g_iretF X hr (by first | exact hRL2 _ _ | exact hR0 _ _ | assumption | (unfold InR; omega)) ⟨by rw [hs, show (σ (TB 0) 1 - i).toNat = 0 by omega]; rfl, rfl⟩ dX1_lowestBestTask_40
      · skip
        have hcb := hT0.2.2.2 w i hw.1 hw.2 hi.1 (by omega)
        refine g_aload0 X dX1_lowestBestTask_13 ?_
        refine g_iload1 X dX1_lowestBestTask_14 ?_
        refine g_iload3 X dX1_lowestBestTask_15 ?_
        refine g_iload2 X dX1_lowestBestTask_16 ?_
        refine g_F3 X (k_X1_totalFrom E (by omega) (by omega) (by omega) (by omega) hLb) gX1_lowestBestTask_X1_totalFrom rfl (by decide +kernel) (by decide) ob_3 (Nat.le_of_ble_eq_true rfl) dX1_lowestBestTask_17 (fun hz17 => ?_)
        refine g_rg (fun hR17 => ?_)
        refine g_aload0 X dX1_lowestBestTask_20 ?_
        refine gf_1_least X i1 (by decide +kernel) dX1_lowestBestTask_21 ?_
        refine g_iload1 X dX1_lowestBestTask_24 ?_
        refine g_aald_5 X (by omega) dX1_lowestBestTask_25 ?_
        refine g_iload2 X dX1_lowestBestTask_26 ?_
        refine g_iald X (ia_LR (by omega) (by omega)) dX1_lowestBestTask_27 ?_
        refine g_icmp_ne (tgt := 33) X (by first | exact hR17 _ _ | exact hRL2 _ _ | exact hR0 _ _ | assumption | (unfold InR; omega)) (by first | exact hR17 _ _ | exact hRL2 _ _ | exact hR0 _ _ | assumption | (unfold InR; omega)) dX1_lowestBestTask_28 (by decide) (fun h28 => ?_) (fun h28 => ?_)
        · skip
          refine g_iinc3 X dX1_lowestBestTask_33 (by decide) (by first | exact Or.inl rfl | exact Or.inr ⟨_, rfl, rfl⟩) ?_
          refine g_goto (tgt := 2) X dX1_lowestBestTask_36 (by decide) ?_
          refine ih2 _ (by omega) ?_ ?_
          · omega
          · rw [hs, fsP_s ⟨hi.1, by omega⟩, if_neg (by simpa using h28)]
        · skip
          refine g_iload3 X dX1_lowestBestTask_31 ?_
          exact g_iretF X hr (by first | exact hR17 _ _ | exact hRL2 _ _ | exact hR0 _ _ | assumption | (unfold InR; omega)) ⟨by rw [hs, fsP_s ⟨hi.1, by omega⟩, if_pos (by simpa using h28)], rfl⟩ dX1_lowestBestTask_32
  refine L2 _ _ (Nat.lt_succ_self _) ?_ ?_
  · omega
  · rw [Int.sub_zero]
    rfl

set_option maxHeartbeats 4000000 in
set_option maxRecDepth 100000 in
theorem k_X1_chosenPairs (E0 : EV) {ad : Int → Nat} {σ : St} (hm : 0 ≤ σ (TB 0) 0 ∧ σ (TB 0) 0 ≤ 7) : MGE E0 yX1_chosenPairs wsX1_chosenPairs 0 0 ad σ [.ref (ad 3)] (PF (cP σ (σ (TB 0) 0)) σ) := by
  refine MGE.of (cc := cX1_chosenPairs) (maxL := 3) (ret := (some .int)) (own := RX1) [some (.ref (ad 3)), none, none] (by decide +kernel) rfl rfl (Nat.le_of_ble_eq_true rfl) rfl rfl (fun E X hr => ?_)
  have i1 : ∀ w ∈ wsX10, w ∈ wsX1_chosenPairs := by decide +kernel
  have i4 : ∀ w ∈ wsX40, w ∈ wsX1_chosenPairs := by decide +kernel
  refine g_rg (fun hR0 => ?_)
  refine g_iconst X dX1_chosenPairs_0 ?_
  refine g_istore1 X dX1_chosenPairs_1 (by decide) (by first | exact Or.inl rfl | exact Or.inr ⟨_, rfl, rfl⟩) ?_
  refine g_iconst X dX1_chosenPairs_2 ?_
  refine g_istore2 X dX1_chosenPairs_3 (by decide) (by first | exact Or.inl rfl | exact Or.inr ⟨_, rfl, rfl⟩) ?_
  have L4 : ∀ (n4 : Nat) (i a : Int), (σ (TB 0) 0 - i).toNat < n4 → (0 ≤ i ∧ i ≤ σ (TB 0) 0) → (0 ≤ a ∧ a ≤ i) → (a = cP σ i) → WG E ad 3 σ 4 [some (.ref (ad 3)), some (.int (iI a)), some (.int (iI i))] [] := by
    intro n4
    induction n4 with
    | zero => intro i a hn; exact absurd hn (Nat.not_lt_zero _)
    | succ n4 ih4 =>
      intro i a hn4 hi ha hs
      refine g_rg (fun hRL4 => ?_)
      refine g_iload2 X dX1_chosenPairs_4 ?_
      refine g_aload0 X dX1_chosenPairs_5 ?_
      refine gf_1_table X i1 (by decide +kernel) dX1_chosenPairs_6 ?_
      refine gf_4_workers X (by omega) i4 (by decide +kernel) dX1_chosenPairs_9 ?_
      refine g_icmp_ge (tgt := 34) X (by first | exact hRL4 _ _ | exact hR0 _ _ | assumption | (unfold InR; omega)) (by first | exact hRL4 _ _ | exact hR0 _ _ | assumption | (unfold InR; omega)) dX1_chosenPairs_12 (by decide) (fun h12 => ?_) (fun h12 => ?_)
      · skip
        refine g_iload1 X dX1_chosenPairs_34 ?_
        exact g_iretF X hr (by first | exact hRL4 _ _ | exact hR0 _ _ | assumption | (unfold InR; omega)) ⟨by rw [hs]; congr 1; omega, rfl⟩ dX1_chosenPairs_35
      · skip
        refine g_aload0 X dX1_chosenPairs_15 ?_
        refine gf_1_chosen X i1 (by decide +kernel) dX1_chosenPairs_16 ?_
        refine g_iload2 X dX1_chosenPairs_19 ?_
        refine g_iald X (ia_4 (by omega)) dX1_chosenPairs_20 ?_
        refine g_iconst X dX1_chosenPairs_21 ?_
        refine g_icmp_eq (tgt := 28) X (by first | exact hRL4 _ _ | exact hR0 _ _ | assumption | (unfold InR; omega)) (by first | exact hRL4 _ _ | exact hR0 _ _ | assumption | (unfold InR; omega)) dX1_chosenPairs_22 (by decide) (fun h22 => ?_) (fun h22 => ?_)
        · skip
          refine g_iinc2 X dX1_chosenPairs_28 (by decide) (by first | exact Or.inl rfl | exact Or.inr ⟨_, rfl, rfl⟩) ?_
          refine g_goto (tgt := 4) X dX1_chosenPairs_31 (by decide) ?_
          refine ih4 _ _ (by omega) ?_ ?_ ?_
          · omega
          · omega
          · rw [hs, cP_s hi.1]
            first | (rw [if_pos (by omega)]; done) | (rw [if_neg (by omega)]; done)
        · skip
          refine g_iinc1 X dX1_chosenPairs_25 (by decide) (by first | exact Or.inl rfl | exact Or.inr ⟨_, rfl, rfl⟩) ?_
          refine g_iinc2 X dX1_chosenPairs_28 (by decide) (by first | exact Or.inl rfl | exact Or.inr ⟨_, rfl, rfl⟩) ?_
          refine g_goto (tgt := 4) X dX1_chosenPairs_31 (by decide) ?_
          refine ih4 _ _ (by omega) ?_ ?_ ?_
          · omega
          · omega
          · rw [hs, cP_s hi.1]
            first | (rw [if_pos (by omega)]; done) | (rw [if_neg (by omega)]; done)
  refine L4 _ _ _ (Nat.lt_succ_self _) ?_ ?_ ?_
  · omega
  · omega
  · rfl

set_option maxHeartbeats 4000000 in
set_option maxRecDepth 100000 in
theorem k_X1_chooseFirst (E0 : EV) {ad : Int → Nat} {σ : St} (hT0 : TOK σ 0) : MGE E0 yX1_chooseFirst wsX1_chooseFirst 5 114 ad σ [.ref (ad 3)] (PV (fun σ' => CH σ σ')) := by
  refine MGE.of (cc := cX1_chooseFirst) (maxL := 3) (ret := none) (own := RX1) [some (.ref (ad 3)), none, none] (by decide +kernel) rfl rfl (Nat.le_of_ble_eq_true rfl) rfl rfl (fun E X hr => ?_)
  have i1 : ∀ w ∈ wsX10, w ∈ wsX1_chooseFirst := by decide +kernel
  have i4 : ∀ w ∈ wsX40, w ∈ wsX1_chooseFirst := by decide +kernel
  refine g_rg (fun hR0 => ?_)
  have hm := hT0.1
  have hn := hT0.2.1
  have hp3 := p2_n hn
  refine g_aload0 X dX1_chooseFirst_0 ?_
  refine g_aload0 X dX1_chooseFirst_1 ?_
  refine g_I0 X (k_X1_leastTotal E hT0) gX1_chooseFirst_X1_leastTotal rfl (by decide +kernel) (by decide) ob_3 (Nat.le_of_ble_eq_true rfl) dX1_chooseFirst_2 (fun z2 σ2 hz2 hp2 => ?_)
  refine g_rg (fun hR2 => ?_)
  refine gp_1_chosenTotal X i1 (by decide +kernel) (by first | exact hR2 _ _ | exact hR0 _ _ | assumption | (unfold InR; omega)) dX1_chooseFirst_5 ?_
  refine g_rg (fun hR5 => ?_)
  refine g_iconst X dX1_chooseFirst_8 ?_
  refine g_istore1 X dX1_chooseFirst_9 (by decide) (by first | exact Or.inl rfl | exact Or.inr ⟨_, rfl, rfl⟩) ?_
  refine g_iconst X dX1_chooseFirst_10 ?_
  refine g_istore2 X dX1_chooseFirst_11 (by decide) (by first | exact Or.inl rfl | exact Or.inr ⟨_, rfl, rfl⟩) ?_
  have L12 : ∀ (n12 : Nat) (w tk : Int) (σ1 : St), (σ (TB 0) 0 - w).toNat < n12 → (0 ≤ w ∧ w ≤ σ (TB 0) 0) → (0 ≤ tk ∧ tk < p2 (σ (TB 0) 1)) → (tk = tkS σ w) → (∀ q k, q ≠ 3 → q ≠ 4 → (q < 71 ∨ 79 ≤ q) → σ1 q k = σ q k) → (σ1 3 1 = RW σ (AW σ) 0 0) → (∀ w tk, 0 ≤ w → w ≤ σ (TB 0) 0 → 0 ≤ tk → tk < p2 (σ (TB 0) 1) → σ1 (LR w) tk = RW σ (AW σ) w tk) → (∀ v, 0 ≤ v → v < w → σ1 4 v = fP σ v) → WG E ad 3 σ1 12 [some (.ref (ad 3)), some (.int (iI tk)), some (.int (iI w))] [] := by
    intro n12
    induction n12 with
    | zero => intro w tk σ1 hn; exact absurd hn (Nat.not_lt_zero _)
    | succ n12 ih12 =>
      intro w tk σ1 hn12 hw htk hs hF h31 hrw hch
      refine g_rg (fun hRL12 => ?_)
      have e0 : σ1 (TB 0) 0 = σ (TB 0) 0 := hF _ _ (by unfold TB; omega) (by unfold TB; omega) (by unfold TB; omega)
      have e1 : σ1 (TB 0) 1 = σ (TB 0) 1 := hF _ _ (by unfold TB; omega) (by unfold TB; omega) (by unfold TB; omega)
      have e1p : p2 (σ1 (TB 0) 1) = p2 (σ (TB 0) 1) := by rw [e1]
      refine g_iload2 X dX1_chooseFirst_12 ?_
      refine g_aload0 X dX1_chooseFirst_13 ?_
      refine gf_1_table X i1 (by decide +kernel) dX1_chooseFirst_14 ?_
      refine gf_4_workers X (by omega) i4 (by decide +kernel) dX1_chooseFirst_17 ?_
      refine g_icmp_ge (tgt := 62) X (by first | exact hRL12 _ _ | exact hR5 _ _ | exact hR2 _ _ | exact hR0 _ _ | assumption | (unfold InR; omega)) (by first | exact hRL12 _ _ | exact hR5 _ _ | exact hR2 _ _ | exact hR0 _ _ | assumption | (unfold InR; omega)) dX1_chooseFirst_20 (by decide) (fun h20 => ?_) (fun h20 => ?_)
      · skip
        exact g_vret X hr ⟨hF, h31, fun v h1 h2 => hch v h1 (by omega)⟩ dX1_chooseFirst_62
      · skip
        have hT1 : TOK σ1 0 := ⟨by rw [e0]; exact hm, by rw [e1]; exact hn, fun v h1 h2 => by rw [hF _ _ (by unfold TI; omega) (by unfold TI; omega) (by unfold TI; omega)]; exact hT0.2.2.1 v h1 h2, fun v j h1 h2 h3 h4 => by rw [hF _ _ (by unfold TR; omega) (by unfold TR; omega) (by unfold TR; omega)]; exact hT0.2.2.2 v j h1 h2 h3 h4⟩
        have hLb : LB σ1 (w + 1) := fun k h1 h2 => by
          rw [hrw (w + 1) k (by omega) (by omega) h1 (by omega)]
          have := RW_b hT0 (AW σ) (w + 1) k (by omega)
          omega
        have eB : fB σ1 w tk = fpk σ w tk := fB_of hT0 (fun q k h1 h2 h3 => hF q k h2 h3 (by omega)) hrw (by omega) htk
        have hfr := fpk_r hT0 w tk
        refine g_aload0 X dX1_chooseFirst_23 ?_
        refine gf_1_chosen X i1 (by decide +kernel) dX1_chooseFirst_24 ?_
        refine g_iload2 X dX1_chooseFirst_27 ?_
        refine g_aload0 X dX1_chooseFirst_28 ?_
        refine g_iload2 X dX1_chooseFirst_29 ?_
        refine g_iload1 X dX1_chooseFirst_30 ?_
        refine g_F2 X (k_X1_lowestBestTask E hT1 (by omega) (by omega) hLb) gX1_chooseFirst_X1_lowestBestTask rfl (by decide +kernel) (by decide) ob_3 (Nat.le_of_ble_eq_true rfl) dX1_chooseFirst_31 (fun hz31 => ?_)
        refine g_rg (fun hR31 => ?_)
        refine g_iast X (ia_4 (by omega)) (by first | exact hR31 _ _ | exact hRL12 _ _ | exact hR5 _ _ | exact hR2 _ _ | exact hR0 _ _ | assumption | (unfold InR; omega)) dX1_chooseFirst_34 ?_
        refine g_rg (fun hR34 => ?_)
        have u1 : up σ1 4 w (fB σ1 w tk) 4 w = fB σ1 w tk := by simp [up]
        refine g_aload0 X dX1_chooseFirst_35 ?_
        refine gf_1_chosen X i1 (by decide +kernel) dX1_chooseFirst_36 ?_
        refine g_iload2 X dX1_chooseFirst_39 ?_
        refine g_iald X (ia_4 (by omega)) dX1_chooseFirst_40 ?_
        rw [u1]
        refine g_iconst X dX1_chooseFirst_41 ?_
        refine g_icmp_eq (tgt := 56) X (by first | exact hR34 _ _ | exact hR31 _ _ | exact hRL12 _ _ | exact hR5 _ _ | exact hR2 _ _ | exact hR0 _ _ | assumption | (unfold InR; omega)) (by first | exact hR34 _ _ | exact hR31 _ _ | exact hRL12 _ _ | exact hR5 _ _ | exact hR2 _ _ | exact hR0 _ _ | assumption | (unfold InR; omega)) dX1_chooseFirst_42 (by decide) (fun h42 => ?_) (fun h42 => ?_)
        · skip
          refine g_iinc2 X dX1_chooseFirst_56 (by decide) (by first | exact Or.inl rfl | exact Or.inr ⟨_, rfl, rfl⟩) ?_
          refine g_goto (tgt := 12) X dX1_chooseFirst_59 (by decide) ?_
          refine ih12 _ _ _ (by omega) ?_ ?_ ?_ ?_ ?_ ?_ ?_
          · omega
          · first | exact htk | exact hsb
          · rw [hs, tkS_s hw.1, ← hs]
            first | (rw [if_pos (by omega)]; done) | (rw [if_neg (by omega), ← eB]; done)
          · intro q k h3 h4 hq
            unfold up
            rw [if_neg (fun h => h4 h.1)]
            exact hF q k h3 h4 hq
          · unfold up
            rw [if_neg (by omega)]
            exact h31
          · intro v k h1 h2 h3 h4
            unfold up
            rw [if_neg (by unfold LR; omega)]
            exact hrw v k h1 h2 h3 h4
          · intro v h1 h2
            unfold up
            by_cases hv : v = w
            · rw [if_pos ⟨rfl, hv⟩, eB, hv]
              unfold fP
              rw [← hs]
            · rw [if_neg (fun h => hv h.2)]
              exact hch v h1 (by omega)
        · skip
          refine g_iload1 X dX1_chooseFirst_45 ?_
          refine g_iconst X dX1_chooseFirst_46 ?_
          refine g_aload0 X dX1_chooseFirst_47 ?_
          refine gf_1_chosen X i1 (by decide +kernel) dX1_chooseFirst_48 ?_
          refine g_iload2 X dX1_chooseFirst_51 ?_
          refine g_iald X (ia_4 (by omega)) dX1_chooseFirst_52 ?_
          rw [u1]
          refine g_ishl X (b_shl (by omega)) dX1_chooseFirst_53 ?_
          have hsb := sb_lt (n := σ (TB 0) 1) htk (k := fB σ1 w tk) (by omega) (by omega)
          refine g_ior X (b_or (by omega) (by omega)) dX1_chooseFirst_54 ?_
          refine g_istore1 X dX1_chooseFirst_55 (by decide) (by first | exact Or.inl rfl | exact Or.inr ⟨_, rfl, rfl⟩) ?_
          refine g_iinc2 X dX1_chooseFirst_56 (by decide) (by first | exact Or.inl rfl | exact Or.inr ⟨_, rfl, rfl⟩) ?_
          refine g_goto (tgt := 12) X dX1_chooseFirst_59 (by decide) ?_
          refine ih12 _ _ _ (by omega) ?_ ?_ ?_ ?_ ?_ ?_ ?_
          · omega
          · first | exact htk | exact hsb
          · rw [hs, tkS_s hw.1, ← hs]
            first | (rw [if_pos (by omega)]; done) | (rw [if_neg (by omega), ← eB]; done)
          · intro q k h3 h4 hq
            unfold up
            rw [if_neg (fun h => h4 h.1)]
            exact hF q k h3 h4 hq
          · unfold up
            rw [if_neg (by omega)]
            exact h31
          · intro v k h1 h2 h3 h4
            unfold up
            rw [if_neg (by unfold LR; omega)]
            exact hrw v k h1 h2 h3 h4
          · intro v h1 h2
            unfold up
            by_cases hv : v = w
            · rw [if_pos ⟨rfl, hv⟩, eB, hv]
              unfold fP
              rw [← hs]
            · rw [if_neg (fun h => hv h.2)]
              exact hch v h1 (by omega)
  refine L12 _ _ _ _ (Nat.lt_succ_self _) ?_ ?_ ?_ ?_ ?_ ?_ ?_
  · omega
  · omega
  · rfl
  · intro q k h3 h4 hq
    unfold up
    rw [if_neg (fun h => h3 h.1)]
    exact hp2.2.1 q k hq
  · unfold up
    rw [if_pos ⟨rfl, rfl⟩]
    exact hp2.1
  · intro v k h1 h2 h3 h4
    unfold up
    rw [if_neg (by unfold LR; omega)]
    exact hp2.2.2 v k h1 h2 h3 h4
  · intro v h1 h2
    omega
