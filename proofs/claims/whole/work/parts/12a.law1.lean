/-! THE LAW: what stands between two calls; the questions' answers -/
def AG (σ σ' : St) : Prop := ∀ q k, 79 ≤ q → σ' q k = σ q k
theorem AG.f {σ σ' : St} (h : AG σ σ') {q : Int} (hq : 79 ≤ q) : σ' q = σ q := funext fun k => h q k hq
theorem AG.cM {σ σ' : St} (h : AG σ σ') : cM σ' = cM σ := funext fun w => funext fun t => h _ _ (by omega)
theorem AG.dM {σ σ' : St} (h : AG σ σ') : dM σ' = dM σ := funext fun w => h _ _ (by omega)
theorem AG.lf {σ σ' : St} (h : AG σ σ') : lfV σ' = lfV σ := funext fun wk => funext fun tk => lfV_c (fun k => h _ _ (by omega)) (h _ _ (by omega)) (h _ _ (by omega)) (h _ _ (by omega)) wk tk
theorem AG.tot {σ σ' : St} (h : AG σ σ') : totM σ' = totM σ := totM_c (fun k => h _ _ (by omega)) (h _ _ (by omega)) (h _ _ (by omega)) (h _ _ (by omega))
theorem AG.A {σ σ' : St} (h : AG σ σ') : AMM σ' = AMM σ := by unfold AMM; rw [h.f (q := 80) (by omega)]
theorem AG.K {σ σ' : St} (h : AG σ σ') : KMM σ' = KMM σ := by unfold KMM; rw [h.f (q := 80) (by omega)]
theorem AG.up {σ σ' : St} (h : AG σ σ') (a b v : Int) : AG (up σ a b v) (up σ' a b v) := fun q k hq => by
  by_cases e : q = a ∧ k = b
  · rw [e.1, e.2, up_e, up_e]
  · rw [up_o e, up_o e]; exact h q k hq
theorem AG.lp {σ σ' : St} (h : AG σ σ') : lpV σ' = lpV σ := funext fun t => by unfold lpV; rw [h.tot, h.A, h.K, (h.up 79 6 t).lf]
theorem AG.gr {σ σ' : St} (h : AG σ σ') : grV σ' = grV σ := funext fun t => by unfold grV; rw [h.tot, h.A, h.K, h.lf]
theorem AG.wh {σ σ' : St} (h : AG σ σ') : whV σ' = whV σ := funext fun t => by unfold whV; rw [h.tot, h.A, h.K, h.lf]
theorem AG.wi {σ σ' : St} (h : AG σ σ') : wiV σ' = wiV σ := funext fun w => funext fun t => by unfold wiV; rw [h.A, h.K, h.lf, h.dM, h.cM]
theorem AG.wo {σ σ' : St} (h : AG σ σ') : woV σ' = woV σ := funext fun w => funext fun t => by unfold woV; exact ((h.up 79 7 w).up 79 8 t).tot
theorem AG.bu {σ σ' : St} (h : AG σ σ') : buV σ' = buV σ := funext fun w => by unfold buV buS; rw [h.wi, h.cM, h.f (q := 80) (by omega)]
theorem AG.pqP {σ σ' : St} (h : AG σ σ') : plP σ' = plP σ := funext fun w => funext fun s => funext fun t => by unfold plP; rw [h.cM, h.lf, h.f (q := 80) (by omega)]
theorem AG.pqF {σ σ' : St} (h : AG σ σ') : plF σ' = plF σ := funext fun w => funext fun s => by unfold plF; rw [h.pqP, h.f (q := 80) (by omega)]
theorem AG.plT {σ σ' : St} (h : AG σ σ') : plT σ' = plT σ := funext fun i => by
  induction i with
  | zero => rw [plT_0, plT_0, h.tot, h.K]
  | succ i ih => exact Prod.ext (by rw [plT_1, plT_1, ih, h.pqF, h.dM, h.cM]) (by rw [plT_2, plT_2, ih, h.pqF])
theorem AG.pl {σ σ' : St} (h : AG σ σ') : plM σ' = plM σ := funext fun w => by unfold plM; rw [h.pqF, h.plT]
theorem AG.rd {σ σ' : St} (h : AG σ σ') : rdM σ' = rdM σ := funext fun w => by unfold rdM; rw [h.pl, h.wo, h.tot]
theorem AG.mo {σ σ' : St} (h : AG σ σ') : moM σ' = moM σ := funext fun w => by unfold moM; rw [h.rd]
theorem AG.de {σ σ' : St} (h : AG σ σ') : deM σ' = deM σ := funext fun w => by unfold deM; rw [h.rd, h.mo]
theorem AG.wt {σ σ' : St} (h : AG σ σ') : wtP σ' = wtP σ := funext fun w => by unfold wtP; rw [h.cM, h.lp, h.dM, h.f (q := 80) (by omega)]
theorem AG.ti {σ σ' : St} (h : AG σ σ') : tiP σ' = tiP σ := funext fun w => by unfold tiP; rw [h.cM, h.lp, h.wt, h.f (q := 80) (by omega)]
theorem AG.sP {σ σ' : St} (h : AG σ σ') : sPM σ' = sPM σ := by unfold sPM sPs; rw [h.lp, h.f (q := 80) (by omega)]
theorem AG.pr {σ σ' : St} (h : AG σ σ') : prS σ' = prS σ := funext fun w => by unfold prS; rw [h.wt, h.sP]
theorem AG.ta {σ σ' : St} (h : AG σ σ') : taS σ' = taS σ := funext fun w => by unfold taS; rw [h.ti, h.sP]
theorem AG.ga {σ σ' : St} (h : AG σ σ') : gaS σ' = gaS σ := funext fun w => by unfold gaS; rw [h.gr]
theorem AG.pp {σ σ' : St} (h : AG σ σ') : prP σ' = prP σ := funext fun w => by unfold prP prR; rw [h.cM, h.f (q := 80) (by omega)]
theorem AG.pd {σ σ' : St} (h : AG σ σ') : pdM σ' = pdM σ := funext fun w => by unfold pdM; rw [h.pl]
theorem AG.wf {σ σ' : St} (h : AG σ σ') : woF σ' = woF σ := funext fun w => by unfold woF; rw [h.pl, h.f (q := 80) (by omega)]
theorem AG.gO {σ σ' : St} (h : AG σ σ') : gOM σ' = gOM σ := funext fun w => funext fun i => by unfold gOM; rw [h.cM, h.dM]
theorem AG.a80 {σ σ' : St} (h : AG σ σ') (k : Int) : σ' 80 k = σ 80 k := h _ _ (by omega)

def MI (σ : St) : Prop := MT (σ 80) ∧ N4 σ ∧ (0 ≤ σ 79 2 ∧ σ 79 2 ≤ 4) ∧ (∀ i, 0 ≤ i → i < 4 → MT (fun k => σ 81 (58 * i + k))) ∧ TXM σ
def RLI (σ : St) : Prop := TEQ σ 0 (σ 80) ∧ σ 1 0 = σ 79 2 ∧ (∀ i, 0 ≤ i → i < σ 1 0 → TEQ σ (σ 2 i) (fun k => σ 81 (58 * i + k))) ∧ σ 8 0 = σ 79 4 ∧ σ 9 = σ 82
def LI (σ : St) : Prop := CI σ ∧ MI σ ∧ RLI σ
def VS (σ σ' : St) : Prop := ∀ q k, q ≠ 3 → q ≠ 4 → q ≠ 7 → q ≠ 10 → ¬ (61 ≤ q ∧ q ≤ 78) → ¬ (83 ≤ q) → ¬ (q = 79 ∧ 11 ≤ k ∧ k ≤ 15) → σ' q k = σ q k
theorem TEQ.of {σ σ' : St} {t : Int} {g g' : Int → Int} (h : TEQ σ t g) (h7 : g 0 ≤ 7) (hg : ∀ k, g' k = g k) (hv : ∀ q k, TB t ≤ q → q ≤ TB t + 9 → σ' q k = σ q k) : TEQ σ' t g' := by
  have hb : g' = g := funext hg
  rw [hb]
  obtain ⟨h1, h2, h3, h4⟩ := h
  refine ⟨?_, ?_, fun w a b => ?_, fun w j a b c d => ?_⟩
  · rw [hv _ _ (by omega) (by omega)]; exact h1
  · rw [hv _ _ (by omega) (by omega)]; exact h2
  · rw [hv _ _ (by unfold TI TB; omega) (by unfold TI TB; omega)]; exact h3 w a b
  · rw [hv _ _ (by unfold TR TB; omega) (by unfold TR TB; omega)]; exact h4 w j a b c d
theorem TXM.vs {σ σ' : St} (h : TXM σ) (hv : VS σ σ') : TXM σ' := h.of (hv _ _ (by omega) (by omega) (by omega) (by omega) (by omega) (by omega) (by omega)) (fun k => hv _ _ (by omega) (by omega) (by omega) (by omega) (by omega) (by omega) (by omega))
theorem LI.of {σ σ' : St} (h : LI σ) (hv : VS σ σ') (h5 : TOK σ' 5) : LI σ' := by
  obtain ⟨⟨c1, c2, c3⟩, ⟨m1, m2, m3, m4, m5⟩, r1, r2, r3, r4, r5⟩ := h
  have e : ∀ q k, (q ≤ 2 ∨ q = 8 ∨ q = 9 ∨ (11 ≤ q ∧ q ≤ 60) ∨ (q = 79 ∧ k ≤ 8) ∨ (80 ≤ q ∧ q ≤ 82)) → σ' q k = σ q k := fun q k hq => hv q k (by omega) (by omega) (by omega) (by omega) (by omega) (by omega) (by omega)
  have e80 : σ' 80 = σ 80 := funext fun k => e _ _ (by omega)
  refine ⟨⟨fun t a b => ?_, ?_, ?_⟩, ⟨by rw [e80]; exact m1, ?_, by rw [e 79 2 (by omega)]; exact m3, fun i a b => ?_, m5.vs hv⟩, ?_, ?_, ?_, ?_, ?_⟩
  · by_cases ht : t = 5
    · rw [ht]; exact h5
    · exact (c1 t a b).keep (fun q k x y => by unfold TB at x y; exact e q k (by omega))
  · obtain ⟨g1, g2, g3⟩ := c2
    refine ⟨by rw [e 1 0 (by omega)]; exact g1, fun i a b => by rw [e 2 i (by omega)]; exact g2 i a b, fun i j a b c => by rw [e 2 i (by omega), e 2 j (by omega)]; exact g3 i j a b c⟩
  · exact c3.of (e _ _ (by omega)) (fun k => e _ _ (by omega))
  · exact ⟨(e _ _ (by omega)).trans m2.1, (e _ _ (by omega)).trans m2.2.1, (e _ _ (by omega)).trans m2.2.2⟩
  · rw [show (fun k => σ' 81 (58 * i + k)) = (fun k => σ 81 (58 * i + k)) from funext fun k => e _ _ (by omega)]; exact m4 i a b
  · exact r1.of m1.1.2 (fun k => e _ _ (by omega)) (fun q k x y => by unfold TB at x y; exact e q k (by omega))
  · rw [e 1 0 (by omega), e 79 2 (by omega)]; exact r2
  · intro i a b
    rw [e 1 0 (by omega)] at b
    have g2 := c2.2.1 i a (by omega)
    rw [e 2 i (by omega)]
    exact (r3 i a b).of (m4 i a (by omega)).1.2 (fun k => e _ _ (by omega)) (fun q k x y => by unfold TB at x y; exact e q k (by omega))
  · rw [e 8 0 (by omega), e 79 4 (by omega)]; exact r4
  · rw [show σ' 9 = σ 9 from funext fun k => e _ _ (by omega), show σ' 82 = σ 82 from funext fun k => e _ _ (by omega)]; exact r5
theorem QQ.vs {σ σ' : St} (h : QQ σ σ') : VS σ σ' := fun q k a b c d e _ _ => h.1 q k a b c d e
theorem QQ.ag {σ σ' : St} (h : QQ σ σ') : AG σ σ' := fun q k a => h.1 q k (by omega) (by omega) (by omega) (by omega) (by omega)
theorem QM.vs {σ σ' : St} (h : QM σ σ') : VS σ σ' := fun q k _ _ _ _ _ a b => h q k (by omega) (by omega) (by omega) (by omega) (by omega) b
theorem LI.q {σ σ' : St} (h : LI σ) (hq : QQ σ σ') : LI σ' := h.of hq.vs hq.2
theorem LI.m {σ σ' : St} (h : LI σ) (hq : QM σ σ') : LI σ' := h.of hq.vs ((h.1.1 5 (by omega) (by omega)).keep (fun q k x y => by unfold TB at x y; exact hq q k (by omega) (by omega) (by omega) (by omega) (by omega) (by omega)))
theorem LI.e {σ : St} (h : LI σ) : EQ0 σ := ⟨h.2.1.1, h.2.1.2.1, h.1.1 0 (by omega) (by omega), h.2.2.1⟩
theorem q_total {σ σ1 : St} (h : EQ0 σ) (g : AG σ σ1) : RW σ (AW σ) 0 0 = totM σ1 := by rw [g.tot, e_tot h]
theorem q_costOf {σ σ1 : St} {x1 x2 : Int} (h : EQ0 σ) (g : AG σ σ1) : (if (0 ≤ x1 ∧ x1 < σ (TB 0) 0) ∧ (x2 = -1 ∨ (0 ≤ x2 ∧ x2 < σ (TB 0) 1)) then (if isB σ 0 x1 x2 = 1 then -4 else cW σ 0 x1 x2) else -1) = (if (0 ≤ x1 ∧ x1 < σ1 80 0) ∧ (x2 = -1 ∨ (0 ≤ x2 ∧ x2 < σ1 80 1)) then (if x2 < 0 then dM σ1 x1 else if cM σ1 x1 x2 < 0 then -4 else cM σ1 x1 x2) else -1) := by
  rw [g.dM, g.cM, g.a80, g.a80, h.m, h.n]
  by_cases hc : (0 ≤ x1 ∧ x1 < σ 80 0) ∧ (x2 = -1 ∨ (0 ≤ x2 ∧ x2 < σ 80 1))
  · rw [if_pos hc, if_pos hc]
    by_cases hx : x2 < 0
    · have hb := isB_01 σ 0 x1 x2
      rw [if_pos hx, if_neg (by omega)]
      unfold cW
      rw [if_pos (by omega), h.d hc.1]
    · have hb := h.b (w := x1) (j := x2) hc.1 (by omega)
      rw [if_neg hx]
      by_cases hn : cM σ x1 x2 < 0
      · rw [if_pos hn, if_pos (by omega)]
      · rw [if_neg hn, if_neg (by omega)]
        unfold cW
        rw [if_neg (by omega), h.c hc.1 (by omega)]
  · rw [if_neg hc, if_neg hc]
theorem q_taskOf {σ σ1 : St} {x1 : Int} (h : EQ0 σ) (g : AG σ σ1) : (if 0 ≤ x1 ∧ x1 < σ (TB 0) 0 then (if fP σ x1 = -1 then -4 else fP σ x1) else -1) = (if 0 ≤ x1 ∧ x1 < σ1 80 0 then n4 (plM σ1 x1) else -1) := by
  rw [g.pl, g.a80, h.m]
  by_cases hc : 0 ≤ x1 ∧ x1 < σ 80 0
  · rw [if_pos hc, if_pos hc, e_fp h hc]; rfl
  · rw [if_neg hc, if_neg hc]
theorem q_workerOf {σ σ1 : St} {x1 : Int} (h : EQ0 σ) (g : AG σ σ1) : (if 0 ≤ x1 ∧ x1 < σ (TB 0) 1 then (if wOf σ x1 = -1 then -4 else wOf σ x1) else -1) = (if 0 ≤ x1 ∧ x1 < σ1 80 1 then woF σ1 x1 else -1) := by
  rw [g.wf, g.a80, h.n]
  by_cases hc : 0 ≤ x1 ∧ x1 < σ 80 1
  · rw [if_pos hc, if_pos hc, e_wof h hc.1]
  · rw [if_neg hc, if_neg hc]
theorem q_totalFor {σ σ1 : St} {x1 : Int} (h : EQ0 σ) (g : AG σ σ1) : (if 0 ≤ x1 ∧ x1 < p2 (σ (TB 0) 0) then RW σ x1 0 0 else -1) = (if 0 ≤ x1 ∧ x1 ≤ AMM σ1 then lfV σ1 x1 (KMM σ1) else -1) := by
  rw [g.A, g.lf, g.K, h.m]
  have e : AMM σ = p2 (σ 80 0) - 1 := rfl
  by_cases hc : 0 ≤ x1 ∧ x1 ≤ AMM σ
  · rw [if_pos hc, if_pos (by omega), e_wk h]
  · rw [if_neg hc, if_neg (by omega)]
theorem q_price {σ σ1 : St} {x1 x2 : Int} (h : EQ0 σ) (g : AG σ σ1) : (if (0 ≤ x1 ∧ x1 < σ (TB 0) 1) ∧ 0 ≤ x2 ∧ x2 ≤ 1 then (if x2 = 1 then grP σ x1 else lpP σ x1) else -1) = (if (0 ≤ x1 ∧ x1 < σ1 80 1) ∧ 0 ≤ x2 ∧ x2 ≤ 1 then (if x2 = 0 then lpV σ1 x1 else grV σ1 x1) else -1) := by
  rw [g.lp, g.gr, g.a80, h.n]
  by_cases hc : (0 ≤ x1 ∧ x1 < σ 80 1) ∧ 0 ≤ x2 ∧ x2 ≤ 1
  · rw [if_pos hc, if_pos hc]
    by_cases hx : x2 = 0
    · rw [if_pos hx, if_neg (by omega), e_lp h hc.1]
    · rw [if_neg hx, if_pos (by omega), e_gr h hc.1]
  · rw [if_neg hc, if_neg hc]
theorem q_workerIs {σ σ1 : St} {x1 x2 : Int} (h : EQ0 σ) (g : AG σ σ1) : (if (0 ≤ x1 ∧ x1 < σ (TB 0) 0) ∧ 0 ≤ x2 ∧ x2 ≤ 3 then (if x2 = 3 then shR σ x1 else if x2 = 0 then wOP σ x1 else if x2 = 1 then tgP σ x1 else if wOP σ x1 = σ (TI 0) x1 then 1 else 0) else -1) = (if (0 ≤ x1 ∧ x1 < σ1 80 0) ∧ 0 ≤ x2 ∧ x2 ≤ 3 then (if x2 = 3 then whV σ1 x1 else if sPM σ1 < 0 then -4 else if x2 = 0 then wtP σ1 x1 else if x2 = 1 then tiP σ1 x1 else if wtP σ1 x1 = dM σ1 x1 then 1 else 0) else -1) := by
  rw [g.wh, g.sP, g.wt, g.ti, g.dM, g.a80, h.m]
  by_cases hc : (0 ≤ x1 ∧ x1 < σ 80 0) ∧ 0 ≤ x2 ∧ x2 ≤ 3
  · have hs := (e_sum h).2
    rw [if_pos hc, if_pos hc, if_neg (show ¬ sPM σ < 0 by omega), e_sh h hc.1, e_wt h hc.1, e_ti h hc.1, h.d hc.1]
  · rw [if_neg hc, if_neg hc]
theorem q_proof {σ σ1 : St} (h : EQ0 σ) (g : AG σ σ1) : sWP σ - sLP σ = prS σ1 (σ1 80 0) := by rw [g.pr, g.a80, e_pr h]
theorem q_pairOf {σ σ1 : St} {x1 x2 x3 : Int} (h : EQ0 σ) (g : AG σ σ1) : (if (0 ≤ x1 ∧ x1 < σ (TB 0) 0) ∧ (x2 = -1 ∨ (0 ≤ x2 ∧ x2 < σ (TB 0) 1)) ∧ 0 ≤ x3 ∧ x3 ≤ 2 then (if isB σ 0 x1 x2 = 1 then -4 else if x3 = 0 then (if twM σ x1 x2 = RW σ (AW σ) 0 0 then 1 else 0) else if x3 = 1 then (if RW σ (AW σ) 0 0 < tOk σ (ub (AW σ) x1) x1 x2 then 1 else 0) else twM σ x1 x2 - RW σ (AW σ) 0 0) else -1) =
    (if (0 ≤ x1 ∧ x1 < σ1 80 0) ∧ (x2 = -1 ∨ (0 ≤ x2 ∧ x2 < σ1 80 1)) ∧ 0 ≤ x3 ∧ x3 ≤ 2 then (if 0 ≤ x2 ∧ cM σ1 x1 x2 < 0 then -4 else if x3 = 1 then (if totM σ1 < (if x2 < 0 then buV σ1 x1 else woV σ1 x1 x2) then 1 else 0) else if x3 = 2 then wiV σ1 x1 x2 - totM σ1 else if wiV σ1 x1 x2 - totM σ1 = 0 then 1 else 0) else -1) := by
  rw [g.cM, g.tot, g.bu, g.wo, g.wi, g.a80, g.a80, h.m, h.n]
  by_cases hc : (0 ≤ x1 ∧ x1 < σ 80 0) ∧ (x2 = -1 ∨ (0 ≤ x2 ∧ x2 < σ 80 1)) ∧ 0 ≤ x3 ∧ x3 ≤ 2
  · rw [if_pos hc, if_pos hc]
    have hb0 := isB_01 σ 0 x1 x2
    have hn := h.1.2.1
    have htw : twM σ x1 x2 = wiV σ x1 x2 := e_wi h hc.1 (by omega)
    have hnb : isB σ 0 x1 x2 = 1 ↔ 0 ≤ x2 ∧ cM σ x1 x2 < 0 := by
      by_cases hx : x2 = -1
      · omega
      · have hb := h.b (w := x1) (j := x2) hc.1 (by omega)
        omega
    have hto : tOk σ (ub (AW σ) x1) x1 x2 = if x2 < 0 then buV σ x1 else woV σ x1 x2 := by
      by_cases hx : x2 < 0
      · rw [if_pos hx, show x2 = -1 by omega, e_bu h hc.1]
      · rw [if_neg hx, e_wo h hc.1 (by omega)]
    rw [hto, htw, e_tot h]
    by_cases hn : 0 ≤ x2 ∧ cM σ x1 x2 < 0
    · rw [if_pos hn, if_pos (hnb.mpr hn)]
    · rw [if_neg hn, if_neg (fun e => hn (hnb.mp e))]
      by_cases h0 : x3 = 0
      · rw [if_pos h0, if_neg (show ¬ x3 = 1 by omega), if_neg (show ¬ x3 = 2 by omega)]
        by_cases he : wiV σ x1 x2 = totM σ
        · rw [if_pos he, if_pos (by omega)]
        · rw [if_neg he, if_neg (by omega)]
      · rw [if_neg h0]
        by_cases h1 : x3 = 1
        · rw [if_pos h1, if_pos h1]
        · rw [if_neg h1, if_neg h1, if_pos (show x3 = 2 by omega)]
  · rw [if_neg hc, if_neg hc]
theorem q_room {σ σ1 : St} {x1 : Int} (h : EQ0 σ) (g : AG σ σ1) : (if 0 ≤ x1 ∧ x1 < σ (TB 0) 0 then (if fP σ x1 = -1 then -4 else rmP σ x1) else -1) = (if 0 ≤ x1 ∧ x1 < σ1 80 0 then (if plM σ1 x1 = -1 then -4 else woV σ1 x1 (plM σ1 x1) - totM σ1) else -1) := by
  rw [g.pl, g.wo, g.tot, g.a80, h.m]
  by_cases hc : 0 ≤ x1 ∧ x1 < σ 80 0
  · have hr := plM_r (σ := σ) h.1.2.1.1 x1
    rw [if_pos hc, if_pos hc, e_fp h hc]
    by_cases hp : plM σ x1 = -1
    · rw [if_pos hp, if_pos hp]
    · rw [if_neg hp, if_neg hp]
      unfold rmP
      rw [e_fp h hc, e_wo h hc (by omega), e_tot h]
  · rw [if_neg hc, if_neg hc]
theorem q_dearest {σ σ1 : St} {x1 : Int} (h : EQ0 σ) (g : AG σ σ1) : (if 0 ≤ x1 ∧ x1 ≤ 2 then (if 0 ≤ deP σ then (if x1 = 0 then deP σ else if x1 = 1 then fP σ (deP σ) else rmP σ (deP σ)) else -4) else -1) = (if 0 ≤ x1 ∧ x1 ≤ 2 then (if deM σ1 (σ1 80 0) < 0 ∨ x1 = 0 then deM σ1 (σ1 80 0) else if x1 = 1 then n4 (plM σ1 (deM σ1 (σ1 80 0))) else moM σ1 (σ1 80 0)) else -1) := by
  rw [g.de, g.pl, g.mo, g.a80]
  by_cases hc : 0 ≤ x1 ∧ x1 ≤ 2
  · rw [if_pos hc, if_pos hc]
    have hm := h.1.1
    rcases e_de h with d | d
    · rw [if_neg (by omega), if_pos (Or.inl (by omega)), d.2]
    · have hx := e_mx h (σ 80 0).toNat (by omega)
      rw [Int.toNat_of_nonneg hm.1] at hx
      have hx2 := hx (by omega)
      have hw : 0 ≤ deM σ (σ 80 0) ∧ deM σ (σ 80 0) < σ 80 0 := by omega
      rw [if_pos d.2.1, d.1]
      by_cases h0 : x1 = 0
      · rw [if_pos h0, if_pos (Or.inr h0)]
      · rw [if_neg h0, if_neg (show ¬ (deM σ (σ 80 0) < 0 ∨ x1 = 0) by omega)]
        -- one with room has a task
        have hmo : ∀ i : Nat, -1 ≤ moM σ i := by
          intro i
          induction i with
          | zero => show (-1 : Int) ≤ -1; omega
          | succ i ih =>
            have e : ((i + 1 : Nat) : Int) = (i : Int) + 1 := by omega
            rw [e, moM_s (by omega)]
            by_cases hq : moM σ i < rdM σ i
            · rw [if_pos hq]; omega
            · rw [if_neg hq]; exact ih
        have hgt : ∀ i : Nat, 0 ≤ deM σ i → -1 < rdM σ (deM σ i) := by
          intro i
          induction i with
          | zero => intro h0; have : deM σ ((0 : Nat) : Int) = -4 := rfl; omega
          | succ i ih =>
            have e : ((i + 1 : Nat) : Int) = (i : Int) + 1 := by omega
            rw [e, deM_s (by omega)]
            by_cases hq : moM σ i < rdM σ i
            · rw [if_pos hq]; intro _; have := hmo i; omega
            · rw [if_neg hq]; exact ih
        have hg := hgt (σ 80 0).toNat
        rw [Int.toNat_of_nonneg hm.1] at hg
        have hg2 := hg (by omega)
        have hpn : plM σ (deM σ (σ 80 0)) ≠ -1 := fun e => by
          unfold rdM at hg2
          rw [if_pos e] at hg2
          omega
        by_cases h1 : x1 = 1
        · rw [if_pos h1, if_pos h1, e_fp h hw]
          unfold n4
          rw [if_neg hpn]
        · rw [if_neg h1, if_neg h1, hx2, ← e_rd h hw]
          unfold rdP
          rw [if_neg (by rw [e_fp h hw]; exact hpn)]
  · rw [if_neg hc, if_neg hc]
theorem q_count {σ σ1 : St} {x1 : Int} (h : EQ0 σ) (g : AG σ σ1) (hr : σ 1 0 = σ 79 2) (h8 : σ 8 0 = σ 79 4) : (if x1 = 0 then σ (TB 0) 0 else if x1 = 1 then σ (TB 0) 1 else if x1 = 2 then oP σ 0 (σ (TB 0) 1) (σ (TB 0) 0) else if x1 = 3 then cPP σ else if x1 = 4 then tPP σ else if x1 = 5 then sLP σ else if x1 = 6 then sG σ (σ (TB 0) 1) else if x1 = 7 then σ 1 0 else if x1 = 8 then σ 8 0 else -1) =
    (if x1 = 0 then σ1 80 0 else if x1 = 1 then σ1 80 1 else if x1 = 2 then prP σ1 (σ1 80 0) else if x1 = 3 then pdM σ1 (σ1 80 0) else if x1 = 4 then taS σ1 (σ1 80 0) else if x1 = 5 then sPM σ1 else if x1 = 6 then gaS σ1 (σ1 80 1) else if x1 = 7 then σ1 79 2 else if x1 = 8 then σ1 79 4 else -1) := by
  rw [g.pp, g.pd, g.ta, g.sP, g.ga, g.a80, g.a80, g 79 2 (by omega), g 79 4 (by omega), e_op h, e_pd h, e_ta h, (e_sum h).1, e_ga h, h.m, h.n, hr, h8]
theorem q_fault {σ σ1 : St} {x1 : Int} (h : EQ0 σ) (g : AG σ σ1) (h9 : σ 9 = σ 82) (h8 : σ 8 0 = σ 79 4) : (if 0 ≤ x1 ∧ x1 ≤ 1 then (if (rwR (σ 9) (σ 8 0)).2.2.1 = 0 then -4 else if x1 = 0 then (rwR (σ 9) (σ 8 0)).2.1 else (rwR (σ 9) (σ 8 0)).2.2.1) else -1) = (if 0 ≤ x1 ∧ x1 ≤ 1 then (if (rwR (σ1 82) (σ1 79 4)).2.2.1 = 0 then -4 else if x1 = 0 then (rwR (σ1 82) (σ1 79 4)).2.1 else (rwR (σ1 82) (σ1 79 4)).2.2.1) else -1) := by
  rw [g.f (q := 82) (by omega), g 79 4 (by omega), h9, h8]

