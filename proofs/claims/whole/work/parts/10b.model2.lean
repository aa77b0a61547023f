/-! MY CONTRACTS: the reference's totals and its changes -/
def N4 (σ : St) : Prop := σ 79 6 = -4 ∧ σ 79 7 = -4 ∧ σ 79 8 = -4
def AMM (σ : St) : Int := p2 (σ 80 0) - 1
def KMM (σ : St) : Int := p2 (σ 80 1) - 1
def totM (σ : St) : Int := lfV σ (AMM σ) (KMM σ)
theorem lfV_c {σ σ' : St} (h80 : ∀ k, σ' 80 k = σ 80 k) (h6 : σ' 79 6 = σ 79 6) (h7 : σ' 79 7 = σ 79 7) (h8 : σ' 79 8 = σ 79 8) (wk tk : Int) : lfV σ' wk tk = lfV σ wk tk := by
  have hc : cH σ' = cH σ := by
    funext w t
    unfold cH cHt cM
    rw [h80, h6, h7, h8]
  have hd : dM σ' = dM σ := funext fun w => h80 _
  have hg : ∀ i, gS σ' wk tk i = gS σ wk tk i := by
    intro i
    induction i with
    | zero => rfl
    | succ i ih =>
      funext k
      rw [gS, gS, hc, hd, ih]
  unfold lfV
  rw [hg, h80]
theorem lfV_F {σ σ' : St} (h : F83 σ σ') (wk tk : Int) : lfV σ' wk tk = lfV σ wk tk := lfV_c (fun k => h _ _ (by omega)) (h _ _ (by omega)) (h _ _ (by omega)) (h _ _ (by omega)) wk tk
theorem totM_c {σ σ' : St} (h80 : ∀ k, σ' 80 k = σ 80 k) (h6 : σ' 79 6 = σ 79 6) (h7 : σ' 79 7 = σ 79 7) (h8 : σ' 79 8 = σ 79 8) : totM σ' = totM σ := by
  unfold totM AMM KMM
  rw [lfV_c h80 h6 h7 h8, h80, h80]
theorem totM_F {σ σ' : St} (h : F83 σ σ') : totM σ' = totM σ := totM_c (fun k => h _ _ (by omega)) (h _ _ (by omega)) (h _ _ (by omega)) (h _ _ (by omega))
theorem fnS_b {σ : St} (hM : MT (σ 80)) {wk tk : Int} : ∀ n : Nat, 0 ≤ fnS σ wk tk n ∧ fnS σ wk tk n ≤ 1000000 := by
  intro n
  have hm := hM.1
  induction n with
  | zero => show 0 ≤ (1000000 : Int) ∧ (1000000 : Int) ≤ 1000000; omega
  | succ n ih =>
    have e : ((n + 1 : Nat) : Int) = (n : Int) + 1 := by omega
    rw [e, fnS_s (by omega)]
    have h1 := gS_b hM (wk := wk) (tk := tk) (σ 80 0).toNat (by omega) n
    by_cases hc : gS σ wk tk (σ 80 0).toNat n < fnS σ wk tk n
    · rw [if_pos hc]; omega
    · rw [if_neg hc]; exact ih
theorem lfV_b {σ : St} (hM : MT (σ 80)) (wk tk : Int) : 0 ≤ lfV σ wk tk ∧ lfV σ wk tk ≤ 1000000 := fnS_b hM 256
theorem totM_b {σ : St} (hM : MT (σ 80)) : 0 ≤ totM σ ∧ totM σ ≤ 1000000 := lfV_b hM _ _
theorem up_f {σ : St} {a b v q : Int} (h : q ≠ a) : up σ a b v q = σ q := by
  funext k
  unfold up
  rw [if_neg (fun e => h e.1)]
theorem up_e {σ : St} {a b v : Int} : up σ a b v a b = v := by
  unfold up
  rw [if_pos ⟨rfl, rfl⟩]
theorem up_o {σ : St} {a b v q k : Int} (h : ¬ (q = a ∧ k = b)) : up σ a b v q k = σ q k := by
  unfold up
  rw [if_neg h]
theorem F83.rf {σ : St} : F83 σ σ := fun _ _ _ => rfl
theorem F83.tr {σ σ' σ'' : St} (h1 : F83 σ σ') (h2 : F83 σ' σ'') : F83 σ σ'' := fun q k h => (h2 q k h).trans (h1 q k h)
theorem F83.mt {σ σ' : St} (h : F83 σ σ') (hM : MT (σ 80)) : MT (σ' 80) := by
  rw [show σ' 80 = σ 80 from funext fun k => h _ _ (by omega)]; exact hM
theorem F83.n4 {σ σ' : St} (h : F83 σ σ') (hN : N4 σ) : N4 σ' := ⟨(h _ _ (by omega)).trans hN.1, (h _ _ (by omega)).trans hN.2.1, (h _ _ (by omega)).trans hN.2.2⟩
def woV (σ : St) (w t : Int) : Int := totM (up (up σ 79 7 w) 79 8 t)
def lpV (σ : St) (t : Int) : Int := totM σ - lfV (up σ 79 6 t) (AMM σ) (sb (KMM σ) 7)
def grV (σ : St) (t : Int) : Int := lfV σ (AMM σ) (KMM σ - p2 t) - totM σ
theorem wo_back {σ σ1 : St} {w t : Int} (hN : N4 σ) (hF : F83 (up (up σ 79 7 w) 79 8 t) σ1) : F83 σ (up (up σ1 79 7 (-4)) 79 8 (-4)) := by
  intro q k hq
  have h := hF q k hq
  unfold up at h ⊢
  by_cases c8 : q = 79 ∧ k = 8
  · rw [if_pos c8, c8.1, c8.2, hN.2.2]
  · rw [if_neg c8] at h ⊢
    by_cases c7 : q = 79 ∧ k = 7
    · rw [if_pos c7, c7.1, c7.2, hN.2.1]
    · rw [if_neg c7] at h ⊢
      exact h
theorem lp_back {σ σ1 : St} {t : Int} (hN : N4 σ) (hF : F83 (up σ 79 6 t) σ1) : F83 σ (up σ1 79 6 (-4)) := by
  intro q k hq
  have h := hF q k hq
  unfold up at h ⊢
  by_cases c8 : q = 79 ∧ k = 6
  · rw [if_pos c8, c8.1, c8.2, hN.1]
  · rw [if_neg c8] at h ⊢
    exact h
theorem b_or128 {m : Int} (hm : 0 ≤ m ∧ m < 256) : iI m ||| iI 128 = iI (sb m 7) := b_or hm (k := 7) (by omega)
/-- the history: shifted, copied, kept -/
def shA (σ : St) (k : Int) : St := fun q j => if q = 81 ∧ 0 ≤ j ∧ j < k then σ 81 (j + 58) else σ q j
def ch0 (σ : St) : St := if σ 79 2 = 4 then up (shA σ 174) 79 2 3 else σ
def cpA (σ : St) (b k : Int) : St := fun q j => if q = 81 ∧ b ≤ j ∧ j < b + k then σ 80 (j - b) else σ q j
def chg (σ : St) : St := up (cpA (ch0 σ) (58 * ch0 σ 79 2) 58) 79 2 (ch0 σ 79 2 + 1)
theorem ch0_p (σ : St) : (σ 79 2 = 4 ∧ ch0 σ 79 2 = 3) ∨ (σ 79 2 ≠ 4 ∧ ch0 σ 79 2 = σ 79 2) := by
  unfold ch0
  by_cases h : σ 79 2 = 4
  · rw [if_pos h]; exact Or.inl ⟨h, up_e⟩
  · rw [if_neg h]; exact Or.inr ⟨h, rfl⟩
theorem ch0_o (σ : St) {q k : Int} (h1 : q ≠ 81) (h2 : ¬ (q = 79 ∧ k = 2)) : ch0 σ q k = σ q k := by
  unfold ch0
  by_cases h : σ 79 2 = 4
  · rw [if_pos h, up_o h2]; unfold shA; rw [if_neg (fun e => h1 e.1)]
  · rw [if_neg h]
theorem chg_o (σ : St) {q k : Int} (h1 : q ≠ 81) (h2 : ¬ (q = 79 ∧ k = 2)) : chg σ q k = σ q k := by
  unfold chg
  rw [up_o h2]
  unfold cpA
  rw [if_neg (fun e => h1 e.1), ch0_o σ h1 h2]
theorem chg_80 (σ : St) : chg σ 80 = σ 80 := funext fun k => chg_o σ (by omega) (by omega)
theorem chg_t (σ : St) : totM (chg σ) = totM σ := totM_c (fun k => chg_o σ (by omega) (by omega)) (chg_o σ (by omega) (by omega)) (chg_o σ (by omega) (by omega)) (chg_o σ (by omega) (by omega))
def fl (σ : St) (a b v : Int) : St := fun q j => if q = 80 ∧ a ≤ j ∧ j < b then v else σ q j
def flc (σ : St) (t k : Int) : St := fun q j => if q = 80 ∧ (j - 9 - t) % 7 = 0 ∧ 9 + t ≤ j ∧ j < 9 + t + 7 * k then -1 else σ q j
def drw (σ : St) (d w v t : Int) : St := fun q k => if q = 80 ∧ 2 + d ≤ k ∧ k < 2 + w then σ 80 (k + 1) else if q = 80 ∧ 9 + 7 * d ≤ k ∧ k < 9 + 7 * v + t then σ 80 (k + 7) else σ q k
def drt (σ : St) (d n w t : Int) : St := fun q k => if q = 80 ∧ 9 ≤ k ∧ d ≤ (k - 9) % 7 ∧ (k - 9) % 7 < n ∧ ((k - 9) / 7 < w ∨ (k - 9) / 7 = w ∧ (k - 9) % 7 < t) then σ 80 (k + 1) else σ q k
def tmA (σ : St) (w f t : Int) : St := fun q k => if q = 80 ∧ 9 + 7 * w ≤ k ∧ k < 9 + 7 * w + t then (if 0 < σ 80 k then σ 80 k * f else σ 80 k) else σ q k
def unA (σ : St) (p k : Int) : St := fun q j => if q = 80 ∧ 0 ≤ j ∧ j < k then σ 81 (58 * p + j) else σ q j
def wkM (σ : St) (x : Int) : St := up (fl (up (chg σ) 80 (2 + σ 80 0) x) (9 + 7 * σ 80 0) (9 + 7 * σ 80 0 + 7) (-1)) 80 0 (σ 80 0 + 1)
def tsM (σ : St) : St := up (flc (chg σ) (σ 80 1) 7) 80 1 (σ 80 1 + 1)
def dwM (σ : St) (d : Int) : St := drw (up (chg σ) 80 0 (σ 80 0 - 1)) d (σ 80 0 - 1) (σ 80 0 - 1) 0
def dtM (σ : St) (d : Int) : St := drt (up (chg σ) 80 1 (σ 80 1 - 1)) d (σ 80 1 - 1) (σ 80 0) 0
def prM (σ : St) (w t c : Int) : St := up (chg σ) 80 (9 + 7 * w + t) c
def tmM (σ : St) (w f : Int) : St := tmA (up (chg σ) 80 (2 + w) (dM σ w * f)) w f (σ 80 1)
def unM (σ : St) : St := unA (up σ 79 2 (σ 79 2 - 1)) (σ 79 2 - 1) 58
def gOM (σ : St) (w i : Int) : Int := FI (fun a t => max a (cM σ w t)) (dM σ w) i
theorem gOM_s {σ : St} {w i : Int} (h : 0 ≤ i) : gOM σ w (i + 1) = max (gOM σ w i) (cM σ w i) := FI_s h
theorem gOM_b {σ : St} (hM : MT (σ 80)) {w : Int} (hw : 0 ≤ w ∧ w < 7) : ∀ n : Nat, (n : Int) ≤ 7 → (dM σ w ≤ gOM σ w n ∧ gOM σ w n ≤ 9999) ∧ ∀ j : Int, 0 ≤ j → j < n → cM σ w j ≤ gOM σ w n := by
  intro n
  have hd := hM.2.2.1 w hw.1 hw.2
  induction n with
  | zero => intro _; exact ⟨⟨Int.le_refl _, hd.2⟩, fun j h1 h2 => by omega⟩
  | succ n ih =>
    intro hn
    have ih' := ih (by omega)
    have e : ((n + 1 : Nat) : Int) = (n : Int) + 1 := by omega
    rw [e, gOM_s (by omega)]
    have h1 := hM.2.2.2 w n hw.1 hw.2 (by omega) (by omega)
    have h2 : cM σ w n = σ 80 (9 + 7 * w + n) := rfl
    refine ⟨by omega, fun j a b => ?_⟩
    by_cases hj : j = n
    · rw [hj]; omega
    · have := ih'.2 j a (by omega); omega
theorem gOM_u {σ : St} (hM : MT (σ 80)) {w : Int} (hw : 0 ≤ w ∧ w < 7) : (0 ≤ gOM σ w (σ 80 1) ∧ gOM σ w (σ 80 1) ≤ 9999) ∧ dM σ w ≤ gOM σ w (σ 80 1) ∧ ∀ j : Int, 0 ≤ j → j < σ 80 1 → cM σ w j ≤ gOM σ w (σ 80 1) := by
  have hn := hM.2.1
  have h := gOM_b hM hw (σ 80 1).toNat (by omega)
  rw [Int.toNat_of_nonneg hn.1] at h
  have hd := hM.2.2.1 w hw.1 hw.2
  have h2 : dM σ w = σ 80 (2 + w) := rfl
  exact ⟨by omega, h.1.1, h.2⟩
set_option maxHeartbeats 4000000 in
set_option maxRecDepth 100000 in
theorem k_X7_leastTotal (E0 : EV) {ad : Int → Nat} {σ : St} (hM : MT (σ 80)) : MGE E0 yX7_leastTotal wsX7_leastTotal 3 72 ad σ [.ref (ad 79)] (PI (fun z σ' => z = totM σ ∧ F83 σ σ')) := by
  refine MGE.of (cc := cX7_leastTotal) (maxL := 1) (ret := (some .int)) (own := RX7) [some (.ref (ad 79))] (by decide +kernel) rfl rfl (Nat.le_of_ble_eq_true rfl) rfl rfl (fun E X hr => ?_)
  refine g_rg (fun hR0 => ?_)
  have hm := hM.1
  have hn := hM.2.1
  have hpm := p2_n (n := σ 80 0) (by omega)
  have hpn := p2_n (n := σ 80 1) (by omega)
  have hb7 := bt_all (n := σ 80 1) (j := 7) (by omega) (by omega)
  rw [if_neg (by omega)] at hb7
  refine g_aload0 X dX7_leastTotal_0 ?_
  refine g_aload0 X dX7_leastTotal_1 ?_
  refine g_F0 X (k_X7_allWorkers E hM) gX7_leastTotal_X7_allWorkers rfl (by decide +kernel) (by decide) ob_79 (Nat.le_of_ble_eq_true rfl) dX7_leastTotal_2 (fun hz2 => ?_)
  refine g_rg (fun hR2 => ?_)
  refine g_aload0 X dX7_leastTotal_5 ?_
  refine g_F0 X (k_X7_allTasks E hM) gX7_leastTotal_X7_allTasks rfl (by decide +kernel) (by decide) ob_79 (Nat.le_of_ble_eq_true rfl) dX7_leastTotal_6 (fun hz6 => ?_)
  refine g_rg (fun hR6 => ?_)
  refine g_I2 X (k_X7_leastFor E hM (by omega) (by omega) (fun h => by omega)) gX7_leastTotal_X7_leastFor rfl (by decide +kernel) (by decide) ob_79 (Nat.le_of_ble_eq_true rfl) dX7_leastTotal_9 (fun z9 σ9 hz9 hp9 => ?_)
  refine g_rg (fun hR9 => ?_)
  exact g_iret X hr (by first | exact hR9 _ _ | exact hR6 _ _ | exact hR2 _ _ | exact hR0 _ _ | assumption | (unfold InR; omega)) ⟨hp9.1, hp9.2⟩ dX7_leastTotal_12

set_option maxHeartbeats 4000000 in
set_option maxRecDepth 100000 in
theorem k_X7_without (E0 : EV) {ad : Int → Nat} {σ : St} {w t : Int} (hM : MT (σ 80)) (hN : N4 σ) (hw : InR w) (ht : InR t) : MGE E0 yX7_without wsX7_without 4 92 ad σ [.ref (ad 79), .int (iI w), .int (iI t)] (PI (fun z σ' => z = woV σ w t ∧ F83 σ σ')) := by
  refine MGE.of (cc := cX7_without) (maxL := 4) (ret := (some .int)) (own := RX7) [some (.ref (ad 79)), some (.int (iI w)), some (.int (iI t)), none] (by decide +kernel) rfl rfl (Nat.le_of_ble_eq_true rfl) rfl rfl (fun E X hr => ?_)
  have i7 : ∀ w ∈ wsX70, w ∈ wsX7_without := by decide +kernel
  refine g_rg (fun hR0 => ?_)
  refine g_aload0 X dX7_without_0 ?_
  refine g_iload1 X dX7_without_1 ?_
  refine gp_7_barredWorker X i7 (by decide +kernel) (by first | exact hR0 _ _ | assumption | (unfold InR; omega)) dX7_without_2 ?_
  refine g_rg (fun hR2 => ?_)
  refine g_aload0 X dX7_without_5 ?_
  refine g_iload2 X dX7_without_6 ?_
  refine gp_7_barredTask X i7 (by decide +kernel) (by first | exact hR2 _ _ | exact hR0 _ _ | assumption | (unfold InR; omega)) dX7_without_7 ?_
  refine g_rg (fun hR7 => ?_)
  have e80 : up (up σ 79 7 w) 79 8 t 80 = σ 80 := by rw [up_f (by omega), up_f (by omega)]
  refine g_aload0 X dX7_without_10 ?_
  refine g_I0 X (k_X7_leastTotal E (by rw [e80]; exact hM)) gX7_without_X7_leastTotal rfl (by decide +kernel) (by decide) ob_79 (Nat.le_of_ble_eq_true rfl) dX7_without_11 (fun z11 σ11 hz11 hp11 => ?_)
  refine g_rg (fun hR11 => ?_)
  refine g_istore3 X dX7_without_14 (by decide) (by first | exact Or.inl rfl | exact Or.inr ⟨_, rfl, rfl⟩) ?_
  refine g_aload0 X dX7_without_15 ?_
  refine g_bipush X dX7_without_16 (by decide +kernel) ?_
  refine gp_7_barredWorker X i7 (by decide +kernel) (by first | exact hR11 _ _ | exact hR7 _ _ | exact hR2 _ _ | exact hR0 _ _ | assumption | (unfold InR; omega)) dX7_without_18 ?_
  refine g_rg (fun hR18 => ?_)
  refine g_aload0 X dX7_without_21 ?_
  refine g_bipush X dX7_without_22 (by decide +kernel) ?_
  refine gp_7_barredTask X i7 (by decide +kernel) (by first | exact hR18 _ _ | exact hR11 _ _ | exact hR7 _ _ | exact hR2 _ _ | exact hR0 _ _ | assumption | (unfold InR; omega)) dX7_without_24 ?_
  refine g_rg (fun hR24 => ?_)
  have hzb := totM_b (σ := up (up σ 79 7 w) 79 8 t) (by rw [e80]; exact hM)
  have hz11 := hp11.1
  refine g_iload3 X dX7_without_27 ?_
  exact g_iret X hr (by first | exact hR24 _ _ | exact hR18 _ _ | exact hR11 _ _ | exact hR7 _ _ | exact hR2 _ _ | exact hR0 _ _ | assumption | (unfold InR; omega)) ⟨hp11.1, wo_back hN hp11.2⟩ dX7_without_28

theorem sb256 {m k : Int} (hm : 0 ≤ m ∧ m < 256) (hk : 0 ≤ k ∧ k < 8) : 0 ≤ sb m k ∧ sb m k < 256 := by
  obtain ⟨n, rfl⟩ := Int.eq_ofNat_of_zero_le hm.1
  unfold sb
  by_cases h : bt (n : Int) k = 1
  · rw [if_pos h]; omega
  · rw [if_neg h]
    have hk2 : k = 0 ∨ k = 1 ∨ k = 2 ∨ k = 3 ∨ k = 4 ∨ k = 5 ∨ k = 6 ∨ k = 7 := by omega
    have e0 : p2 0 = 1 := rfl
    have e1 : p2 1 = 2 := rfl
    have e2 : p2 2 = 4 := rfl
    have e3 : p2 3 = 8 := rfl
    have e4 : p2 4 = 16 := rfl
    have e5 : p2 5 = 32 := rfl
    have e6 : p2 6 = 64 := rfl
    have e7 : p2 7 = 128 := rfl
    unfold bt at h
    rcases hk2 with rfl | rfl | rfl | rfl | rfl | rfl | rfl | rfl <;> simp only [e0, e1, e2, e3, e4, e5, e6, e7] at h ⊢ <;> omega
theorem bt_128 {m : Int} (h : 0 ≤ m ∧ m < 128) : bt m 7 = 0 := by
  unfold bt
  rw [Int.ediv_eq_zero_of_lt h.1 (by rw [show p2 7 = 128 from rfl]; exact h.2)]
  rfl
set_option maxHeartbeats 4000000 in
set_option maxRecDepth 100000 in
theorem k_X7_leastPrice (E0 : EV) {ad : Int → Nat} {σ : St} {t : Int} (hM : MT (σ 80)) (hN : N4 σ) (ht : 0 ≤ t ∧ t < 7) : MGE E0 yX7_leastPrice wsX7_leastPrice 4 92 ad σ [.ref (ad 79), .int (iI t)] (PI (fun z σ' => z = lpV σ t ∧ F83 σ σ')) := by
  refine MGE.of (cc := cX7_leastPrice) (maxL := 3) (ret := (some .int)) (own := RX7) [some (.ref (ad 79)), some (.int (iI t)), none] (by decide +kernel) rfl rfl (Nat.le_of_ble_eq_true rfl) rfl rfl (fun E X hr => ?_)
  have i7 : ∀ w ∈ wsX70, w ∈ wsX7_leastPrice := by decide +kernel
  refine g_rg (fun hR0 => ?_)
  have hm := hM.1
  have hn := hM.2.1
  have hpm := p2_n (n := σ 80 0) (by omega)
  have hpn := p2_n (n := σ 80 1) (by omega)
  have hb7 := bt_all (n := σ 80 1) (j := 7) (by omega) (by omega)
  rw [if_neg (by omega)] at hb7
  refine g_aload0 X dX7_leastPrice_0 ?_
  refine g_iload1 X dX7_leastPrice_1 ?_
  refine gp_7_another X i7 (by decide +kernel) (by first | exact hR0 _ _ | assumption | (unfold InR; omega)) dX7_leastPrice_2 ?_
  refine g_rg (fun hR2 => ?_)
  refine g_aload0 X dX7_leastPrice_5 ?_
  have e80 : up σ 79 6 t 80 = σ 80 := up_f (by omega)
  have e6 : up σ 79 6 t 79 6 = t := up_e
  have hsb := sb_lt (m := p2 (σ 80 1) - 1) (k := 7) (n := 8)
  refine g_aload0 X dX7_leastPrice_6 ?_
  refine g_F0 X (k_X7_allWorkers E (by rw [e80]; exact hM)) gX7_leastPrice_X7_allWorkers rfl (by decide +kernel) (by decide) ob_79 (Nat.le_of_ble_eq_true rfl) dX7_leastPrice_7 (fun hz7 => ?_)
  refine g_rg (fun hR7 => ?_)
  refine g_aload0 X dX7_leastPrice_10 ?_
  refine g_F0 X (k_X7_allTasks E (by rw [e80]; exact hM)) gX7_leastPrice_X7_allTasks rfl (by decide +kernel) (by decide) ob_79 (Nat.le_of_ble_eq_true rfl) dX7_leastPrice_11 (fun hz11 => ?_)
  refine g_rg (fun hR11 => ?_)
  rw [e80]
  refine g_sipush X dX7_leastPrice_14 (by decide +kernel) ?_
  have hs8 := sb256 (m := p2 (σ 80 1) - 1) (k := 7) (by omega) (by omega)
  refine g_ior X (b_or128 (by omega)) dX7_leastPrice_17 ?_
  refine g_I2 X (k_X7_leastFor E (by rw [e80]; exact hM) (by omega) (by omega) (fun _ => by omega)) gX7_leastPrice_X7_leastFor rfl (by decide +kernel) (by decide) ob_79 (Nat.le_of_ble_eq_true rfl) dX7_leastPrice_18 (fun z18 σ18 hz18 hp18 => ?_)
  refine g_rg (fun hR18 => ?_)
  refine g_istore2 X dX7_leastPrice_21 (by decide) (by first | exact Or.inl rfl | exact Or.inr ⟨_, rfl, rfl⟩) ?_
  refine g_aload0 X dX7_leastPrice_22 ?_
  refine g_bipush X dX7_leastPrice_23 (by decide +kernel) ?_
  refine gp_7_another X i7 (by decide +kernel) (by first | exact hR18 _ _ | exact hR11 _ _ | exact hR7 _ _ | exact hR2 _ _ | exact hR0 _ _ | assumption | (unfold InR; omega)) dX7_leastPrice_25 ?_
  refine g_rg (fun hR25 => ?_)
  refine g_aload0 X dX7_leastPrice_28 ?_
  have hFb := lp_back hN hp18.2
  have hzb := totM_b hM
  have hz18 := hp18.1
  have hlb := lfV_b (σ := up σ 79 6 t) (by rw [e80]; exact hM) (p2 (σ 80 0) - 1) (sb (p2 (σ 80 1) - 1) 7)
  have hM2 := hFb.mt hM
  refine g_I0 X (k_X7_leastTotal E hM2) gX7_leastPrice_X7_leastTotal rfl (by decide +kernel) (by decide) ob_79 (Nat.le_of_ble_eq_true rfl) dX7_leastPrice_29 (fun z29 σ29 hz29 hp29 => ?_)
  refine g_rg (fun hR29 => ?_)
  refine g_iload2 X dX7_leastPrice_32 ?_
  have hz29 := hp29.1
  rw [totM_F hFb] at hz29
  refine g_isub X dX7_leastPrice_33 ?_
  exact g_iret X hr (by first | exact hR29 _ _ | exact hR25 _ _ | exact hR18 _ _ | exact hR11 _ _ | exact hR7 _ _ | exact hR2 _ _ | exact hR0 _ _ | assumption | (unfold InR; omega)) ⟨by rw [hz29, hz18]; rfl, hFb.tr hp29.2⟩ dX7_leastPrice_34

set_option maxHeartbeats 4000000 in
set_option maxRecDepth 100000 in
theorem k_X7_greatestPrice (E0 : EV) {ad : Int → Nat} {σ : St} {t : Int} (hM : MT (σ 80)) (ht : 0 ≤ t ∧ t < σ 80 1) : MGE E0 yX7_greatestPrice wsX7_greatestPrice 4 92 ad σ [.ref (ad 79), .int (iI t)] (PI (fun z σ' => z = grV σ t ∧ F83 σ σ')) := by
  refine MGE.of (cc := cX7_greatestPrice) (maxL := 2) (ret := (some .int)) (own := RX7) [some (.ref (ad 79)), some (.int (iI t))] (by decide +kernel) rfl rfl (Nat.le_of_ble_eq_true rfl) rfl rfl (fun E X hr => ?_)
  refine g_rg (fun hR0 => ?_)
  have hm := hM.1
  have hn := hM.2.1
  have hpm := p2_n (n := σ 80 0) (by omega)
  have hpn := p2_n (n := σ 80 1) (by omega)
  have hb7 := bt_all (n := σ 80 1) (j := 7) (by omega) (by omega)
  rw [if_neg (by omega)] at hb7
  have hpt := p2_k (k := t) (by omega)
  have hlt := p2_lt (k := t) (n := σ 80 1) (by omega) (by omega) (by omega)
  have hb8 := bt_128 (m := p2 (σ 80 1) - 1 - p2 t) (by omega)
  refine g_aload0 X dX7_greatestPrice_0 ?_
  refine g_aload0 X dX7_greatestPrice_1 ?_
  refine g_F0 X (k_X7_allWorkers E hM) gX7_greatestPrice_X7_allWorkers rfl (by decide +kernel) (by decide) ob_79 (Nat.le_of_ble_eq_true rfl) dX7_greatestPrice_2 (fun hz2 => ?_)
  refine g_rg (fun hR2 => ?_)
  refine g_aload0 X dX7_greatestPrice_5 ?_
  refine g_F0 X (k_X7_allTasks E hM) gX7_greatestPrice_X7_allTasks rfl (by decide +kernel) (by decide) ob_79 (Nat.le_of_ble_eq_true rfl) dX7_greatestPrice_6 (fun hz6 => ?_)
  refine g_rg (fun hR6 => ?_)
  refine g_iconst X dX7_greatestPrice_9 ?_
  refine g_iload1 X dX7_greatestPrice_10 ?_
  refine g_ishl X (b_shl (by omega)) dX7_greatestPrice_11 ?_
  refine g_isub X dX7_greatestPrice_12 ?_
  refine g_I2 X (k_X7_leastFor E hM (by omega) (by omega) (fun h => by omega)) gX7_greatestPrice_X7_leastFor rfl (by decide +kernel) (by decide) ob_79 (Nat.le_of_ble_eq_true rfl) dX7_greatestPrice_13 (fun z13 σ13 hz13 hp13 => ?_)
  refine g_rg (fun hR13 => ?_)
  have hz13 := hp13.1
  have hlb := lfV_b hM (p2 (σ 80 0) - 1) (p2 (σ 80 1) - 1 - p2 t)
  have htb := totM_b hM
  refine g_aload0 X dX7_greatestPrice_16 ?_
  refine g_I0 X (k_X7_leastTotal E (hp13.2.mt hM)) gX7_greatestPrice_X7_leastTotal rfl (by decide +kernel) (by decide) ob_79 (Nat.le_of_ble_eq_true rfl) dX7_greatestPrice_17 (fun z17 σ17 hz17 hp17 => ?_)
  refine g_rg (fun hR17 => ?_)
  have hz17 := hp17.1
  rw [totM_F hp13.2] at hz17
  refine g_isub X dX7_greatestPrice_20 ?_
  exact g_iret X hr (by first | exact hR17 _ _ | exact hR13 _ _ | exact hR6 _ _ | exact hR2 _ _ | exact hR0 _ _ | assumption | (unfold InR; omega)) ⟨by rw [hz17, hz13]; rfl, hp13.2.tr hp17.2⟩ dX7_greatestPrice_21

theorem ch0_1 {σ : St} (h : σ 79 2 ≠ 4) : σ = ch0 σ := by unfold ch0; rw [if_neg h]
theorem ch0_2 {σ : St} {k : Int} (h : σ 79 2 = 4) (hk : k = 174) : up (shA σ k) 79 2 (shA σ k 79 2 - 1) = ch0 σ := by
  have e : shA σ k 79 2 = σ 79 2 := by unfold shA; rw [if_neg (by omega)]
  rw [e, h, hk]
  unfold ch0
  rw [if_pos h]
  rfl
set_option maxHeartbeats 4000000 in
set_option maxRecDepth 100000 in
theorem k_X7_changes (E0 : EV) {ad : Int → Nat} {σ : St} (hP : 0 ≤ σ 79 2 ∧ σ 79 2 ≤ 4) : MGE E0 yX7_changes wsX7_changes 0 0 ad σ [.ref (ad 79)] (PW (chg σ)) := by
  refine MGE.of (cc := cX7_changes) (maxL := 2) (ret := none) (own := RX7) [some (.ref (ad 79)), none] (by decide +kernel) rfl rfl (Nat.le_of_ble_eq_true rfl) rfl rfl (fun E X hr => ?_)
  have i7 : ∀ w ∈ wsX70, w ∈ wsX7_changes := by decide +kernel
  refine g_rg (fun hR0 => ?_)
  have hp0 := ch0_p σ
  have J48 : ∀ (σ0 : St) (u : Option Value), σ0 = ch0 σ → WG E ad 2 σ0 48 [some (.ref (ad 79)), u] [] := by
    intro σ0 u hσ0
    subst hσ0
    refine g_iconst X dX7_changes_48 ?_
    refine g_istore1 X dX7_changes_49 (by decide) (by first | exact Or.inl rfl | exact Or.inr ⟨_, rfl, rfl⟩) ?_
    have L50 : ∀ (n50 : Nat) (k : Int) (σ1 : St), (58 - k).toNat < n50 → (0 ≤ k ∧ k ≤ 58) → (σ1 = cpA (ch0 σ) (58 * ch0 σ 79 2) k) → WG E ad 2 σ1 50 [some (.ref (ad 79)), some (.int (iI k))] [] := by
      intro n50
      induction n50 with
      | zero => intro k σ1 hn; exact absurd hn (Nat.not_lt_zero _)
      | succ n50 ih50 =>
        intro k σ1 hn50 hk hσ
        refine g_rg (fun hRL50 => ?_)
        subst hσ
        have ep : cpA (ch0 σ) (58 * ch0 σ 79 2) k 79 2 = ch0 σ 79 2 := by unfold cpA; rw [if_neg (by omega)]
        refine g_iload1 X dX7_changes_50 ?_
        refine g_bipush X dX7_changes_51 (by decide +kernel) ?_
        refine g_icmp_ge (tgt := 82) X (by first | exact hRL50 _ _ | exact hR0 _ _ | assumption | (unfold InR; omega)) (by first | exact hRL50 _ _ | exact hR0 _ _ | assumption | (unfold InR; omega)) dX7_changes_53 (by decide) (fun h53 => ?_) (fun h53 => ?_)
        · skip
          refine g_aload0 X dX7_changes_82 ?_
          refine g_dup X dX7_changes_83 rfl ?_
          refine gf_7_pasts X i7 (by decide +kernel) dX7_changes_84 ?_
          refine g_iconst X dX7_changes_87 ?_
          rw [ep]
          have ek : k = 58 := by omega
          subst ek
          refine g_iadd X dX7_changes_88 ?_
          refine gp_7_pasts X i7 (by decide +kernel) (by first | exact hRL50 _ _ | exact hR0 _ _ | assumption | (unfold InR; omega)) dX7_changes_89 ?_
          refine g_rg (fun hR89 => ?_)
          exact g_vretW X hr rfl dX7_changes_92
        · skip
          refine g_aload0 X dX7_changes_56 ?_
          refine gf_7_past X i7 (by decide +kernel) dX7_changes_57 ?_
          refine g_bipush X dX7_changes_60 (by decide +kernel) ?_
          refine g_aload0 X dX7_changes_62 ?_
          refine gf_7_pasts X i7 (by decide +kernel) dX7_changes_63 ?_
          rw [ep]
          refine g_imul X dX7_changes_66 ?_
          refine g_iload1 X dX7_changes_67 ?_
          refine g_iadd X dX7_changes_68 ?_
          refine g_aload0 X dX7_changes_69 ?_
          refine gf_7_s X i7 (by decide +kernel) dX7_changes_70 ?_
          refine g_iload1 X dX7_changes_73 ?_
          refine g_iald X (ia_80 (by omega)) dX7_changes_74 ?_
          refine g_iast X (ia_81 (by omega)) (by first | exact hRL50 _ _ | exact hR0 _ _ | assumption | (unfold InR; omega)) dX7_changes_75 ?_
          refine g_rg (fun hR75 => ?_)
          refine g_iinc1 X dX7_changes_76 (by decide) (by first | exact Or.inl rfl | exact Or.inr ⟨_, rfl, rfl⟩) ?_
          refine g_goto (tgt := 50) X dX7_changes_79 (by decide) ?_
          refine ih50 _ _ (by omega) ?_ ?_
          · omega
          · funext q j
            unfold up cpA
            repeat' split
            all_goals first | rfl | omega | exact st_c (by omega) (by omega) | (exfalso; omega)
    refine L50 _ _ _ (Nat.lt_succ_self _) ?_ ?_
    · omega
    · funext q j
      unfold cpA
      repeat' split
      all_goals first | rfl | omega | exact st_c (by omega) (by omega) | (exfalso; omega)
  refine g_aload0 X dX7_changes_0 ?_
  refine gf_7_pasts X i7 (by decide +kernel) dX7_changes_1 ?_
  refine g_iconst X dX7_changes_4 ?_
  refine g_icmp_ne (tgt := 48) X (by first | exact hR0 _ _ | assumption | (unfold InR; omega)) (by first | exact hR0 _ _ | assumption | (unfold InR; omega)) dX7_changes_5 (by decide) (fun h5 => ?_) (fun h5 => ?_)
  · skip
    exact J48 _ _ (by first | exact ch0_1 (by omega) | exact ch0_2 (by omega) (by omega))
  · skip
    refine g_iconst X dX7_changes_8 ?_
    refine g_istore1 X dX7_changes_9 (by decide) (by first | exact Or.inl rfl | exact Or.inr ⟨_, rfl, rfl⟩) ?_
    have L10 : ∀ (n10 : Nat) (k : Int) (σ1 : St), (174 - k).toNat < n10 → (0 ≤ k ∧ k ≤ 174) → (σ1 = shA σ k) → WG E ad 2 σ1 10 [some (.ref (ad 79)), some (.int (iI k))] [] := by
      intro n10
      induction n10 with
      | zero => intro k σ1 hn; exact absurd hn (Nat.not_lt_zero _)
      | succ n10 ih10 =>
        intro k σ1 hn10 hk hσ
        refine g_rg (fun hRL10 => ?_)
        subst hσ
        refine g_iload1 X dX7_changes_10 ?_
        refine g_sipush X dX7_changes_11 (by decide +kernel) ?_
        refine g_icmp_ge (tgt := 38) X (by first | exact hRL10 _ _ | exact hR0 _ _ | assumption | (unfold InR; omega)) (by first | exact hRL10 _ _ | exact hR0 _ _ | assumption | (unfold InR; omega)) dX7_changes_14 (by decide) (fun h14 => ?_) (fun h14 => ?_)
        · skip
          have e2 : shA σ k 79 2 = σ 79 2 := by unfold shA; rw [if_neg (by omega)]
          refine g_aload0 X dX7_changes_38 ?_
          refine g_dup X dX7_changes_39 rfl ?_
          refine gf_7_pasts X i7 (by decide +kernel) dX7_changes_40 ?_
          refine g_iconst X dX7_changes_43 ?_
          refine g_isub X dX7_changes_44 ?_
          refine gp_7_pasts X i7 (by decide +kernel) (by first | exact hRL10 _ _ | exact hR0 _ _ | assumption | (unfold InR; omega)) dX7_changes_45 ?_
          refine g_rg (fun hR45 => ?_)
          exact J48 _ _ (by first | exact ch0_1 (by omega) | exact ch0_2 (by omega) (by omega))
        · skip
          refine g_aload0 X dX7_changes_17 ?_
          refine gf_7_past X i7 (by decide +kernel) dX7_changes_18 ?_
          refine g_iload1 X dX7_changes_21 ?_
          refine g_aload0 X dX7_changes_22 ?_
          refine gf_7_past X i7 (by decide +kernel) dX7_changes_23 ?_
          refine g_iload1 X dX7_changes_26 ?_
          refine g_bipush X dX7_changes_27 (by decide +kernel) ?_
          refine g_iadd X dX7_changes_29 ?_
          refine g_iald X (ia_81 (by omega)) dX7_changes_30 ?_
          refine g_iast X (ia_81 (by omega)) (by first | exact hRL10 _ _ | exact hR0 _ _ | assumption | (unfold InR; omega)) dX7_changes_31 ?_
          refine g_rg (fun hR31 => ?_)
          refine g_iinc1 X dX7_changes_32 (by decide) (by first | exact Or.inl rfl | exact Or.inr ⟨_, rfl, rfl⟩) ?_
          refine g_goto (tgt := 10) X dX7_changes_35 (by decide) ?_
          refine ih10 _ _ (by omega) ?_ ?_
          · omega
          · funext q j
            unfold up shA
            repeat' split
            all_goals first | rfl | omega | exact st_c (by omega) (by omega) | (exfalso; omega)
    refine L10 _ _ _ (Nat.lt_succ_self _) ?_ ?_
    · omega
    · funext q j
      unfold shA
      repeat' split
      all_goals first | rfl | omega | exact st_c (by omega) (by omega) | (exfalso; omega)
