/-! WHAT DEPENDS ON THE TABLE ALONE -/
def EQT (σ σ' : St) : Prop := ∀ q k, 11 ≤ q → q ≤ 20 → σ' q k = σ q k
section SAME
variable {σ σ' : St}
theorem EQT.m (e : EQT σ σ') : σ' (TB 0) 0 = σ (TB 0) 0 := e _ _ (by unfold TB; omega) (by unfold TB; omega)
theorem EQT.n (e : EQT σ σ') : σ' (TB 0) 1 = σ (TB 0) 1 := e _ _ (by unfold TB; omega) (by unfold TB; omega)
theorem EQT.i (e : EQT σ σ') (w : Int) : σ' (TI 0) w = σ (TI 0) w := e _ _ (by unfold TI; omega) (by unfold TI; omega)
theorem EQT.c (e : EQT σ σ') {w : Int} (hw : 0 ≤ w ∧ w < 7) (j : Int) : σ' (TR 0 w) j = σ (TR 0 w) j := e _ _ (by unfold TR; omega) (by unfold TR; omega)
theorem EQT.b (e : EQT σ σ') {w : Int} (hw : 0 ≤ w ∧ w < 7) (j : Int) : isB σ' 0 w j = isB σ 0 w j := by
  unfold isB
  rw [e.c hw]
theorem EQT.r (hT : TOK σ 0) (e : EQT σ σ') (wk : Int) {w : Int} (hw : 0 ≤ w) (tk : Int) : RW σ' wk w tk = RW σ wk w tk := RW_c hT e _ _ _ hw
theorem EQT.a (e : EQT σ σ') : AW σ' = AW σ := AW_c e
theorem EQT.sh (hT : TOK σ 0) (e : EQT σ σ') (w : Int) : shR σ' w = shR σ w := by
  unfold shR
  rw [e.a, e.r hT _ (by omega), e.r hT _ (by omega)]
theorem EQT.lp (hT : TOK σ 0) (e : EQT σ σ') (j : Int) : lpP σ' j = lpP σ j := by
  have hm := hT.1
  unfold lpP lpS
  rw [e.m]
  exact FI_congrI hm.1 (fun a w h0 hw => by rw [e.b (by omega), e.sh hT, e.c (by omega)])
theorem EQT.wo (hT : TOK σ 0) (e : EQT σ σ') {w : Int} (hw : 0 ≤ w ∧ w < 7) : wOP σ' w = wOP σ w := by
  unfold wOP
  rw [e.n, e.i]
  exact FI_congrI hT.2.1.1 (fun a j _ _ => by rw [e.b hw, e.c hw, e.lp hT])
theorem EQT.gr (hT : TOK σ 0) (e : EQT σ σ') (j : Int) : grP σ' j = grP σ j := by
  unfold grP
  rw [e.a, e.r hT _ (by omega), e.r hT _ (by omega)]
theorem EQT.fk (hT : TOK σ 0) (e : EQT σ σ') {w : Int} (hw : 0 ≤ w ∧ w < 7) (tk : Int) : fpk σ' w tk = fpk σ w tk := by
  unfold fpk
  rw [e.n]
  refine fsP_congr _ (by have := hT.2.1; omega) (fun j _ _ => ?_)
  have h : tFm σ' (AW σ') w j tk = tFm σ (AW σ) w j tk := by
    unfold tFm
    rw [e.a, e.c hw, e.r hT _ (by omega)]
  rw [h, e.a, e.r hT _ hw.1]
theorem EQT.tk (hT : TOK σ 0) (e : EQT σ σ') : ∀ i : Nat, (i : Int) ≤ 7 → tkS σ' i = tkS σ i := by
  intro i
  induction i with
  | zero => intro _; rfl
  | succ i ih =>
    intro hi
    have ih' := ih (by omega)
    have ec : ((i + 1 : Nat) : Int) = (i : Int) + 1 := by omega
    rw [ec, tkS_s (by omega), tkS_s (by omega), ih', e.fk hT (by omega)]
theorem EQT.f (hT : TOK σ 0) (e : EQT σ σ') {w : Int} (hw : 0 ≤ w ∧ w < 7) : fP σ' w = fP σ w := by
  have h := e.tk hT w.toNat (by omega)
  rw [Int.toNat_of_nonneg hw.1] at h
  unfold fP
  rw [h, e.fk hT hw]
theorem EQT.w (hT : TOK σ 0) (e : EQT σ σ') (j : Int) : wOf σ' j = wOf σ j := by
  have hm := hT.1
  unfold wOf
  rw [e.m]
  exact fsP_congr _ (by omega) (fun w _ _ => by rw [e.f hT (by omega)])
theorem EQT.cp (hT : TOK σ 0) (e : EQT σ σ') : cPP σ' = cPP σ := by
  have hm := hT.1
  unfold cPP
  rw [e.m]
  exact FI_congrI hm.1 (fun a w _ _ => by rw [e.f hT (by omega)])
theorem EQT.sl (hT : TOK σ 0) (e : EQT σ σ') : sLP σ' = sLP σ := by
  unfold sLP
  rw [e.n]
  exact FI_congrI hT.2.1.1 (fun a j _ _ => by rw [e.lp hT])
theorem EQT.sg (hT : TOK σ 0) (e : EQT σ σ') : sG σ' (σ' (TB 0) 1) = sG σ (σ (TB 0) 1) := by
  unfold sG
  rw [e.n]
  exact FI_congrI hT.2.1.1 (fun a j _ _ => by rw [e.gr hT])
theorem EQT.sw (hT : TOK σ 0) (e : EQT σ σ') : sWP σ' = sWP σ := by
  have hm := hT.1
  unfold sWP
  rw [e.m]
  exact FI_congrI hm.1 (fun a w _ _ => by rw [e.wo hT (by omega)])
theorem EQT.tg (hT : TOK σ 0) (e : EQT σ σ') {w : Int} (hw : 0 ≤ w ∧ w < 7) : tgP σ' w = tgP σ w := by
  unfold tgP
  rw [e.n]
  exact FI_congrI hT.2.1.1 (fun a j _ _ => by rw [e.b hw, e.c hw, e.lp hT, e.wo hT hw])
theorem EQT.tp (hT : TOK σ 0) (e : EQT σ σ') : tPP σ' = tPP σ := by
  have hm := hT.1
  unfold tPP
  rw [e.m]
  exact FI_congrI hm.1 (fun a w _ _ => by rw [e.tg hT (by omega)])
theorem EQT.op (hT : TOK σ 0) (e : EQT σ σ') : oP σ' 0 (σ' (TB 0) 1) (σ' (TB 0) 0) = oP σ 0 (σ (TB 0) 1) (σ (TB 0) 0) := by
  have hm := hT.1
  unfold oP
  rw [e.m, e.n]
  refine FI_congrI hm.1 (fun a w _ _ => ?_)
  unfold oR
  exact FI_congrI hT.2.1.1 (fun a j _ _ => by rw [e.c (by omega)])
end SAME
/-- the law's state in the midst of its questions -/
def PS (σ σ1 : St) : Prop := CI σ1 ∧ ∀ q k, (q = 8 ∨ (11 ≤ q ∧ q ≤ 20) ∨ (79 ≤ q ∧ q ≤ 81)) → σ1 q k = σ q k
theorem PS.rf {σ : St} (h : LW σ) : PS σ σ := ⟨h.1, fun _ _ _ => rfl⟩
theorem PS.t {σ σ1 : St} (h : PS σ σ1) : EQT σ σ1 := fun q k a b => h.2 q k (by omega)
theorem PS.q {σ σ1 σ2 : St} (h : PS σ σ1) (hq : QQ σ1 σ2) : PS σ σ2 := ⟨h.1.of hq, fun q k a => (hq.1 q k (by omega) (by omega) (by omega) (by omega) (by omega)).trans (h.2 q k a)⟩
theorem PS.p {σ σ1 : St} (h : PS σ σ1) (j v : Int) : PS σ (up σ1 82 j v) := ⟨h.1.hi (fun q k a => o_up (by omega)), fun q k a => by rw [o_up (by omega)]; exact h.2 q k a⟩
theorem PS.z {σ σ1 : St} (h : PS σ σ1) : PS σ (z82 σ1) := ⟨h.1.hi (fun q k a => by unfold z82; rw [if_neg (by omega)]), fun q k a => by unfold z82; rw [if_neg (by omega)]; exact h.2 q k a⟩
theorem PS.lw {σ σ1 : St} (hL : LW σ) (h : PS σ σ1) : LW σ1 := by
  obtain ⟨h1, h2, h3, h4, h5, h6, h7⟩ := hL
  have hm := (h1.1 0 (by omega) (by omega)).1
  have e := h.2
  have eb : ∀ k, σ1 (TB 0) k = σ (TB 0) k := fun k => e _ _ (by unfold TB; omega)
  refine ⟨h.1, by rw [e 8 0 (by omega)]; exact h2, by rw [eb]; exact h3, by rw [eb, e 79 0 (by omega)]; exact h4, by rw [eb, e 79 1 (by omega)]; exact h5, fun w a b => ?_, fun w j a b c d => ?_⟩
  · rw [eb] at b
    rw [e 81 w (by omega), e (TI 0) w (by unfold TI; omega)]; exact h6 w a b
  · rw [eb] at b d
    rw [e 80 _ (by omega), e (TR 0 w) j (by unfold TR; omega)]; exact h7 w j a b c d
/-- the answers, told by the state ahead of the questions -/
theorem a_price {σ σ1 : St} (hT : TOK σ 0) (h : PS σ σ1) {x1 x2 z : Int} (hz : z = (if (0 ≤ x1 ∧ x1 < σ1 (TB 0) 1) ∧ 0 ≤ x2 ∧ x2 ≤ 1 then (if x2 = 1 then grP σ1 x1 else lpP σ1 x1) else -1)) : ((0 ≤ x1 ∧ x1 < σ (TB 0) 1) → x2 = 0 → z = lpP σ x1) ∧ ((0 ≤ x1 ∧ x1 < σ (TB 0) 1) → x2 = 1 → z = grP σ x1) ∧ ((0 ≤ x1 ∧ x1 < σ (TB 0) 1) → x2 = 2 → z = -1) := by
  rw [h.t.n, h.t.gr hT, h.t.lp hT] at hz
  refine ⟨fun a b => ?_, fun a b => ?_, fun a b => ?_⟩
  · rw [hz, if_pos ⟨a, by omega, by omega⟩, if_neg (by omega)]
  · rw [hz, if_pos ⟨a, by omega, by omega⟩, if_pos b]
  · rw [hz, if_neg (by omega)]
theorem a_task {σ σ1 : St} (hT : TOK σ 0) (h : PS σ σ1) {x1 z : Int} (hw : 0 ≤ x1 ∧ x1 < σ (TB 0) 0) (hz : z = (if 0 ≤ x1 ∧ x1 < σ1 (TB 0) 0 then (if fP σ1 x1 = -1 then -4 else fP σ1 x1) else -1)) : (fP σ x1 = -1 ∧ z = -4) ∨ (0 ≤ fP σ x1 ∧ z = fP σ x1) := by
  have hm := hT.1
  rw [h.t.m, h.t.f hT (by omega), if_pos hw] at hz
  have hr := fP_r hT x1
  by_cases g : fP σ x1 = -1
  · rw [if_pos g] at hz; exact Or.inl ⟨g, hz⟩
  · rw [if_neg g] at hz; exact Or.inr ⟨by omega, hz⟩
theorem a_work {σ σ1 : St} (hT : TOK σ 0) (h : PS σ σ1) {x1 z : Int} (hj : 0 ≤ x1 ∧ x1 < σ (TB 0) 1) (hz : z = (if 0 ≤ x1 ∧ x1 < σ1 (TB 0) 1 then (if wOf σ1 x1 = -1 then -4 else wOf σ1 x1) else -1)) : z = if wOf σ x1 = -1 then -4 else wOf σ x1 := by
  rw [h.t.n, h.t.w hT, if_pos hj] at hz
  exact hz
theorem a_is {σ σ1 : St} (hT : TOK σ 0) (h : PS σ σ1) {x1 x2 z : Int} (hw : 0 ≤ x1 ∧ x1 < σ (TB 0) 0) (hz : z = (if (0 ≤ x1 ∧ x1 < σ1 (TB 0) 0) ∧ 0 ≤ x2 ∧ x2 ≤ 3 then (if x2 = 3 then shR σ1 x1 else if x2 = 0 then wOP σ1 x1 else if x2 = 1 then tgP σ1 x1 else if wOP σ1 x1 = σ1 (TI 0) x1 then 1 else 0) else -1)) : (x2 = 0 → z = wOP σ x1) ∧ (x2 = 1 → z = tgP σ x1) ∧ (x2 = 2 → (wOP σ x1 = σ (TI 0) x1 ∧ z = 1) ∨ (wOP σ x1 ≠ σ (TI 0) x1 ∧ z = 0)) ∧ (x2 = 4 → z = -1) := by
  have hm := hT.1
  rw [h.t.m, h.t.sh hT, h.t.wo hT (by omega), h.t.tg hT (by omega), h.t.i] at hz
  refine ⟨fun b => ?_, fun b => ?_, fun b => ?_, fun b => ?_⟩
  · rw [hz, if_pos ⟨hw, by omega, by omega⟩, if_neg (by omega), if_pos b]
  · rw [hz, if_pos ⟨hw, by omega, by omega⟩, if_neg (by omega), if_neg (by omega), if_pos b]
  · rw [if_pos ⟨hw, by omega, by omega⟩, if_neg (by omega), if_neg (by omega), if_neg (by omega)] at hz
    by_cases g : wOP σ x1 = σ (TI 0) x1
    · rw [if_pos g] at hz; exact Or.inl ⟨g, hz⟩
    · rw [if_neg g] at hz; exact Or.inr ⟨g, hz⟩
  · rw [hz, if_neg (by omega)]
theorem a_count {σ σ1 : St} (hT : TOK σ 0) (h : PS σ σ1) (h8 : σ 8 0 = 0) {x1 z : Int} (hz : z = (if x1 = 0 then σ1 (TB 0) 0 else if x1 = 1 then σ1 (TB 0) 1 else if x1 = 2 then oP σ1 0 (σ1 (TB 0) 1) (σ1 (TB 0) 0) else if x1 = 3 then cPP σ1 else if x1 = 4 then tPP σ1 else if x1 = 5 then sLP σ1 else if x1 = 6 then sG σ1 (σ1 (TB 0) 1) else if x1 = 7 then σ1 1 0 else if x1 = 8 then σ1 8 0 else -1)) : (x1 = 0 → z = σ (TB 0) 0) ∧ (x1 = 1 → z = σ (TB 0) 1) ∧ (x1 = 2 → z = oP σ 0 (σ (TB 0) 1) (σ (TB 0) 0)) ∧ (x1 = 3 → z = cPP σ) ∧ (x1 = 4 → z = tPP σ) ∧ (x1 = 5 → z = sLP σ) ∧ (x1 = 6 → z = sG σ (σ (TB 0) 1)) ∧ (x1 = 8 → z = 0) ∧ (x1 = 9 → z = -1) := by
  rw [h.t.op hT, h.t.cp hT, h.t.tp hT, h.t.sl hT, h.t.sg hT, h.t.m, h.t.n, h.2 8 0 (by omega), h8] at hz
  refine ⟨fun b => ?_, fun b => ?_, fun b => ?_, fun b => ?_, fun b => ?_, fun b => ?_, fun b => ?_, fun b => ?_, fun b => ?_⟩ <;> rw [hz] <;> (repeat (first | rw [if_pos b] | rw [if_neg (by omega)]))
theorem a_cost {σ σ1 : St} (h : PS σ σ1) {x1 x2 z : Int} (hm : σ (TB 0) 0 ≤ 7) (hz : z = (if (0 ≤ x1 ∧ x1 < σ1 (TB 0) 0) ∧ (x2 = -1 ∨ (0 ≤ x2 ∧ x2 < σ1 (TB 0) 1)) then (if isB σ1 0 x1 x2 = 1 then -4 else cW σ1 0 x1 x2) else -1)) : ((0 ≤ x1 ∧ x1 < σ (TB 0) 0) → (0 ≤ x2 ∧ x2 < σ (TB 0) 1) → (σ (TR 0 x1) x2 = -1 ∧ z = -4) ∨ (σ (TR 0 x1) x2 ≠ -1 ∧ z = σ (TR 0 x1) x2)) ∧ ((0 ≤ x1 ∧ x1 < σ (TB 0) 0) → x2 = -1 → z = σ (TI 0) x1) ∧ ((x2 ≠ -1 ∧ ¬ (0 ≤ x2 ∧ x2 < σ (TB 0) 1)) → z = -1) ∧ (¬ (0 ≤ x1 ∧ x1 < σ (TB 0) 0) → z = -1) := by
  rw [h.t.m, h.t.n] at hz
  refine ⟨fun a b => ?_, fun a b => ?_, fun a => ?_, fun a => ?_⟩
  · rw [if_pos ⟨a, Or.inr b⟩, h.t.b (by omega)] at hz
    unfold cW at hz
    rw [if_neg (show ¬ x2 = -1 by omega), h.t.c (by omega)] at hz
    have hb := isB_c (σ := σ) (w := x1) b.1
    by_cases g : σ (TR 0 x1) x2 = -1
    · rw [if_pos (hb.mpr g)] at hz; exact Or.inl ⟨g, hz⟩
    · rw [if_neg (fun e => g (hb.mp e))] at hz; exact Or.inr ⟨g, hz⟩
  · have hb := isB_01 σ1 0 x1 x2
    rw [if_pos ⟨a, Or.inl b⟩, if_neg (by omega)] at hz
    unfold cW at hz
    rw [if_pos b, h.t.i] at hz
    exact hz
  · rw [hz, if_neg (by omega)]
  · rw [hz, if_neg (by omega)]
theorem a_tot {σ σ1 : St} (hT : TOK σ 0) (h : PS σ σ1) : RW σ1 (AW σ1) 0 0 = RW σ (AW σ) 0 0 := RW_t hT h.t
theorem a_pf {σ σ1 : St} (hT : TOK σ 0) (h : PS σ σ1) : sWP σ1 - sLP σ1 = RW σ (AW σ) 0 0 := by
  rw [h.t.sw hT, h.t.sl hT]; exact d_pf hT
/-- the paired of the first workers -/
def pP (σ : St) (i : Int) : Int := FI (fun a w => if fP σ w = -1 then a else a + 1) 0 i
theorem pP_s {σ : St} {i : Int} (h : 0 ≤ i) : pP σ (i + 1) = if fP σ i = -1 then pP σ i else pP σ i + 1 := FI_s h
theorem cPP_p (σ : St) : cPP σ = pP σ (σ (TB 0) 0) := rfl
def pw (σ : St) (w i : Int) : Int := FI (fun a j => if isB σ 0 w j = 1 then a else min a (σ (TR 0 w) j + lpP σ j)) (σ (TI 0) w) i
theorem pw_s {σ : St} {w i : Int} (h : 0 ≤ i) : pw σ w (i + 1) = if isB σ 0 w i = 1 then pw σ w i else min (pw σ w i) (σ (TR 0 w) i + lpP σ i) := FI_s h
theorem wOP_p (σ : St) (w : Int) : wOP σ w = pw σ w (σ (TB 0) 1) := rfl
theorem pLp_b {σ : St} (hT : TOK σ 0) {i : Int} (hi : 0 ≤ i ∧ i ≤ 7) : 0 ≤ pLp σ i ∧ pLp σ i ≤ 490007 := by
  have h := FI_add_b (f := fun j => lpP σ j) (lo := 0) (hi := 70001) i.toNat (fun j a b => lpP_b hT (by omega))
  rw [Int.toNat_of_nonneg hi.1] at h
  unfold pLp
  omega
theorem sG_bd {σ : St} (hT : TOK σ 0) {i : Int} (hi : 0 ≤ i ∧ i ≤ 7) : -490000 ≤ sG σ i ∧ sG σ i ≤ 490000 := by
  have h := FI_add_b (f := fun j => grP σ j) (lo := -70000) (hi := 70000) i.toNat (fun j a b => by
    have h1 := RW_b hT (AW σ) 0 (p2 j) (by omega)
    have h2 := RW_b hT (AW σ) 0 0 (by omega)
    show -70000 ≤ grP σ j ∧ grP σ j ≤ 70000
    unfold grP
    omega)
  rw [Int.toNat_of_nonneg hi.1] at h
  unfold sG
  omega
theorem pP_b {σ : St} : ∀ i : Nat, 0 ≤ pP σ i ∧ pP σ i ≤ i := by
  intro i
  induction i with
  | zero => exact ⟨Int.le_refl _, Int.le_refl _⟩
  | succ i ih =>
    have ec : ((i + 1 : Nat) : Int) = (i : Int) + 1 := by omega
    rw [ec, pP_s (by omega)]
    by_cases g : fP σ i = -1
    · rw [if_pos g]; omega
    · rw [if_neg g]; omega
theorem pw_b {σ : St} (hT : TOK σ 0) {w : Int} (hw : 0 ≤ w ∧ w < 7) : ∀ i : Nat, (i : Int) ≤ 7 → -1 ≤ pw σ w i ∧ pw σ w i ≤ 9999 := by
  intro i
  induction i with
  | zero => intro _; show -1 ≤ σ (TI 0) w ∧ σ (TI 0) w ≤ 9999; have := hT.2.2.1 w hw.1 hw.2; omega
  | succ i ih =>
    intro hi
    have ih' := ih (by omega)
    have ec : ((i + 1 : Nat) : Int) = (i : Int) + 1 := by omega
    have h1 := lpP_b hT (j := (i : Int)) (by omega)
    have h2 := hT.2.2.2 w i hw.1 hw.2 (by omega) (by omega)
    rw [ec, pw_s (by omega)]
    by_cases g : isB σ 0 w i = 1
    · rw [if_pos g]; exact ih'
    · rw [if_neg g]; omega
