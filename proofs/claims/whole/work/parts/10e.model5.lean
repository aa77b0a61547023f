/-! MY CONTRACTS: the reference's questions -/
def QM (σ σ' : St) : Prop := ∀ q k, q ≠ 83 → q ≠ 84 → q ≠ 85 → q ≠ 86 → q ≠ 87 → ¬ (q = 79 ∧ 11 ≤ k ∧ k ≤ 15) → σ' q k = σ q k
def F85 (σ σ' : St) : Prop := ∀ q k, q ≠ 83 → q ≠ 85 → σ' q k = σ q k
theorem QM.rf {σ : St} : QM σ σ := fun _ _ _ _ _ _ _ _ => rfl
theorem F83.qm {σ σ' : St} (h : F83 σ σ') : QM σ σ' := fun q k a _ _ _ _ _ => h q k a
theorem F84.qm {σ σ' : St} (h : F84 σ σ') : QM σ σ' := fun q k a b _ _ _ _ => h q k a b
theorem F85.qm {σ σ' : St} (h : F85 σ σ') : QM σ σ' := fun q k a _ b _ _ _ => h q k a b
theorem QM.tr {σ σ' σ'' : St} (h1 : QM σ σ') (h2 : QM σ' σ'') : QM σ σ'' := fun q k a b c d e f => (h2 q k a b c d e f).trans (h1 q k a b c d e f)
theorem F85.rf {σ : St} : F85 σ σ := fun _ _ _ _ => rfl
theorem F83.f85 {σ σ' : St} (h : F83 σ σ') : F85 σ σ' := fun q k a _ => h q k a
theorem F85.tr {σ σ' σ'' : St} (h1 : F85 σ σ') (h2 : F85 σ' σ'') : F85 σ σ'' := fun q k h g => (h2 q k h g).trans (h1 q k h g)
theorem F85.mt {σ σ' : St} (h : F85 σ σ') (hM : MT (σ 80)) : MT (σ' 80) := by
  rw [show σ' 80 = σ 80 from funext fun k => h _ _ (by omega) (by omega)]; exact hM
theorem F85.n4 {σ σ' : St} (h : F85 σ σ') (hN : N4 σ) : N4 σ' := ⟨(h _ _ (by omega) (by omega)).trans hN.1, (h _ _ (by omega) (by omega)).trans hN.2.1, (h _ _ (by omega) (by omega)).trans hN.2.2⟩
def woF (σ : St) (x : Int) : Int := FI (fun a w => if n4 (plM σ w) = x then w else a) (-4) (σ 80 0)
def sPs (σ : St) (i : Int) : Int := FI (fun a t => a + lpV σ t) 0 i
theorem sPs_s {σ : St} {i : Int} (h : 0 ≤ i) : sPs σ (i + 1) = sPs σ i + lpV σ i := FI_s h
def sPM (σ : St) : Int := sPs σ (σ 80 1)
theorem lpV_b {σ : St} (hM : MT (σ 80)) (t : Int) : -1000000 ≤ lpV σ t ∧ lpV σ t ≤ 1000000 := by
  have h1 := totM_b hM
  have h2 := lfV_b (σ := up σ 79 6 t) (by rw [up_f (by omega)]; exact hM) (AMM σ) (sb (KMM σ) 7)
  unfold lpV
  omega
theorem lpV_c {σ σ' : St} (h80 : ∀ k, σ' 80 k = σ 80 k) (h6 : σ' 79 6 = σ 79 6) (h7 : σ' 79 7 = σ 79 7) (h8 : σ' 79 8 = σ 79 8) (t : Int) : lpV σ' t = lpV σ t := by
  unfold lpV
  rw [totM_c h80 h6 h7 h8]
  unfold AMM KMM
  rw [h80, h80, lfV_c (σ := up σ 79 6 t) (σ' := up σ' 79 6 t)]
  · intro k; rw [up_o (by omega), up_o (by omega), h80]
  · rw [up_e, up_e]
  · rw [up_o (by omega), up_o (by omega), h7]
  · rw [up_o (by omega), up_o (by omega), h8]
theorem F85.lp {σ σ' : St} (h : F85 σ σ') (t : Int) : lpV σ' t = lpV σ t := lpV_c (fun k => h _ _ (by omega) (by omega)) (h _ _ (by omega) (by omega)) (h _ _ (by omega) (by omega)) (h _ _ (by omega) (by omega)) t
def wtS (σ : St) (w i : Int) : Int := FI (fun a t => if 0 ≤ cM σ w t ∧ cM σ w t + σ 85 t < a then cM σ w t + σ 85 t else a) (dM σ w) i
theorem wtS_s {σ : St} {w i : Int} (h : 0 ≤ i) : wtS σ w (i + 1) = if 0 ≤ cM σ w i ∧ cM σ w i + σ 85 i < wtS σ w i then cM σ w i + σ 85 i else wtS σ w i := FI_s h
def wtR (σ : St) (w : Int) : Int := wtS σ w (σ 80 1)
def P5 (σ : St) : Prop := ∀ t, 0 ≤ t → t < σ 80 1 → -1000000 ≤ σ 85 t ∧ σ 85 t ≤ 1000000
theorem wtR_b {σ : St} (hM : MT (σ 80)) (hP5 : P5 σ) {w : Int} (hw : 0 ≤ w ∧ w < 7) : -1000001 ≤ wtR σ w ∧ wtR σ w ≤ 9999 := by
  have hn := hM.2.1
  have hd := hM.2.2.1 w hw.1 hw.2
  have key : ∀ i : Nat, (i : Int) ≤ σ 80 1 → -1000001 ≤ wtS σ w i ∧ wtS σ w i ≤ 9999 := by
    intro i
    induction i with
    | zero => intro _; show -1000001 ≤ dM σ w ∧ dM σ w ≤ 9999; unfold dM; omega
    | succ i ih =>
      intro hi
      have e : ((i + 1 : Nat) : Int) = (i : Int) + 1 := by omega
      have := ih (by omega)
      have h5 := hP5 i (by omega) (by omega)
      rw [e, wtS_s (by omega)]
      by_cases h : 0 ≤ cM σ w i ∧ cM σ w i + σ 85 i < wtS σ w i
      · rw [if_pos h]; omega
      · rw [if_neg h]; exact this
  have h := key (σ 80 1).toNat (by omega)
  rw [Int.toNat_of_nonneg hn.1] at h
  exact h
def tiS (σ : St) (w i : Int) : Int := FI (fun a t => if 0 ≤ cM σ w t ∧ cM σ w t + σ 85 t = wtR σ w then sb a t else a) 0 i
theorem tiS_s {σ : St} {w i : Int} (h : 0 ≤ i) : tiS σ w (i + 1) = if 0 ≤ cM σ w i ∧ cM σ w i + σ 85 i = wtR σ w then sb (tiS σ w i) i else tiS σ w i := FI_s h
def tiR (σ : St) (w : Int) : Int := tiS σ w (σ 80 1)
theorem b_orv {m k v : Int} (hm : 0 ≤ m ∧ m < 256) (hk : 0 ≤ k ∧ k < 8) (hv : v = 0 ∨ v = p2 k) : iI m ||| iI v = iI (if v = 0 then m else sb m k) := by
  have hp := p2_k (k := k) (by omega)
  rcases hv with h | h
  · rw [if_pos h, h]
    exact Int32.or_zero
  · rw [if_neg (by omega), h]
    exact b_or hm hk
def wtP (σ : St) (w : Int) : Int := FI (fun a t => if 0 ≤ cM σ w t ∧ cM σ w t + lpV σ t < a then cM σ w t + lpV σ t else a) (dM σ w) (σ 80 1)
def tiP (σ : St) (w : Int) : Int := FI (fun a t => if 0 ≤ cM σ w t ∧ cM σ w t + lpV σ t = wtP σ w then sb a t else a) 0 (σ 80 1)
def PRN (σ σ' : St) : Prop := F85 σ σ' ∧ ∀ t, 0 ≤ t → t < σ 80 1 → σ' 85 t = lpV σ t
theorem PRN.wt {σ σ' : St} (hM : MT (σ 80)) (h : PRN σ σ') (w : Int) : wtR σ' w = wtP σ w := by
  have e : ∀ k, σ' 80 k = σ 80 k := fun k => h.1 _ _ (by omega) (by omega)
  unfold wtR wtS wtP dM cM
  rw [e, e]
  exact FI_congrI hM.2.1.1 (fun a j h0 hj => by rw [h.2 j h0 hj, e])
theorem PRN.ti {σ σ' : St} (hM : MT (σ 80)) (h : PRN σ σ') (w : Int) : tiR σ' w = tiP σ w := by
  have e : ∀ k, σ' 80 k = σ 80 k := fun k => h.1 _ _ (by omega) (by omega)
  have hw := h.wt hM w
  unfold tiR tiS tiP cM
  rw [e, hw]
  exact FI_congrI hM.2.1.1 (fun a j h0 hj => by rw [h.2 j h0 hj, e])
theorem PRN.p5 {σ σ' : St} (hM : MT (σ 80)) (h : PRN σ σ') : P5 σ' := fun t a b => by
  rw [h.1 80 1 (by omega) (by omega)] at b
  rw [h.2 t a b]; exact lpV_b hM t
def whV (σ : St) (w : Int) : Int := totM σ - lfV σ (AMM σ - p2 w) (KMM σ)
def wiV (σ : St) (w t : Int) : Int := if t < 0 then dM σ w + lfV σ (AMM σ - p2 w) (KMM σ) else cM σ w t + lfV σ (AMM σ - p2 w) (KMM σ - p2 t)
theorem wiV_F {σ σ' : St} (h : F83 σ σ') (w t : Int) : wiV σ' w t = wiV σ w t := by
  unfold wiV AMM KMM dM cM
  rw [lfV_F h, lfV_F h, h 80 _ (by omega), h 80 _ (by omega), h 80 _ (by omega), h 80 _ (by omega)]
theorem wiV_b {σ : St} (hM : MT (σ 80)) {w t : Int} (hw : 0 ≤ w ∧ w < 7) (ht : -1 ≤ t ∧ t < 7) : -1 ≤ wiV σ w t ∧ wiV σ w t ≤ 1009999 := by
  have h1 := lfV_b hM (AMM σ - p2 w) (KMM σ)
  have h2 := lfV_b hM (AMM σ - p2 w) (KMM σ - p2 t)
  have h3 := hM.2.2.1 w hw.1 hw.2
  have h4 : dM σ w = σ 80 (2 + w) := rfl
  unfold wiV
  by_cases h : t < 0
  · rw [if_pos h]; omega
  · rw [if_neg h]
    have h5 := hM.2.2.2 w t hw.1 hw.2 (by omega) ht.2
    have h6 : cM σ w t = σ 80 (9 + 7 * w + t) := rfl
    omega
def buS (σ : St) (w i : Int) : Int := FI (fun a t => min a (if cM σ w t < 0 then 1000000 else wiV σ w t)) 1000000 i
theorem buS_s {σ : St} {w i : Int} (h : 0 ≤ i) : buS σ w (i + 1) = min (buS σ w i) (if cM σ w i < 0 then 1000000 else wiV σ w i) := FI_s h
def buV (σ : St) (w : Int) : Int := buS σ w (σ 80 1)
theorem buV_b {σ : St} (hM : MT (σ 80)) {w : Int} (hw : 0 ≤ w ∧ w < 7) : ∀ i : Nat, (i : Int) ≤ 7 → -1 ≤ buS σ w i ∧ buS σ w i ≤ 1000000 := by
  intro i
  induction i with
  | zero => intro _; show (-1 : Int) ≤ 1000000 ∧ (1000000 : Int) ≤ 1000000; omega
  | succ i ih =>
    intro hi
    have e : ((i + 1 : Nat) : Int) = (i : Int) + 1 := by omega
    have h1 := ih (by omega)
    have h2 := wiV_b hM hw (t := i) (by omega)
    rw [e, buS_s (by omega)]
    by_cases h : cM σ w i < 0
    · rw [if_pos h]; omega
    · rw [if_neg h]; omega
def rdM (σ : St) (w : Int) : Int := if plM σ w = -1 then -1 else woV σ w (plM σ w) - totM σ
theorem rdM_b {σ : St} (hM : MT (σ 80)) (w : Int) : -1000000 ≤ rdM σ w ∧ rdM σ w ≤ 1000000 := by
  have h1 := totM_b hM
  have h2 := woV_b hM w (plM σ w)
  unfold rdM
  by_cases h : plM σ w = -1
  · rw [if_pos h]; omega
  · rw [if_neg h]; omega
def moM (σ : St) (i : Int) : Int := FI (fun a w => if a < rdM σ w then rdM σ w else a) (-1) i
theorem moM_s {σ : St} {i : Int} (h : 0 ≤ i) : moM σ (i + 1) = if moM σ i < rdM σ i then rdM σ i else moM σ i := FI_s h
def deM (σ : St) (i : Int) : Int := FI (fun a w => if moM σ w < rdM σ w then w else a) (-4) i
theorem deM_s {σ : St} {i : Int} (h : 0 ≤ i) : deM σ (i + 1) = if moM σ i < rdM σ i then i else deM σ i := FI_s h
def prR (σ : St) (w b j : Int) : Int := FI (fun a t => if cM σ w t < 0 then a else a + 1) b j
theorem prR_s {σ : St} {w b i : Int} (h : 0 ≤ i) : prR σ w b (i + 1) = if cM σ w i < 0 then prR σ w b i else prR σ w b i + 1 := FI_s h
def prP (σ : St) (i : Int) : Int := FI (fun a w => prR σ w a (σ 80 1)) 0 i
theorem prP_s {σ : St} {i : Int} (h : 0 ≤ i) : prP σ (i + 1) = prR σ i (prP σ i) (σ 80 1) := FI_s h
def pdM (σ : St) (i : Int) : Int := FI (fun a w => if plM σ w = -1 then a else a + 1) 0 i
theorem pdM_s {σ : St} {i : Int} (h : 0 ≤ i) : pdM σ (i + 1) = if plM σ i = -1 then pdM σ i else pdM σ i + 1 := FI_s h
def bcS (s i : Int) : Int := FI (fun a t => a + bt s t) 0 i
theorem bcS_s {s i : Int} (h : 0 ≤ i) : bcS s (i + 1) = bcS s i + bt s i := FI_s h
theorem bcS_7 (s : Int) : bcS s 7 = bcN s := by
  show 0 + bt s 0 + bt s 1 + bt s 2 + bt s 3 + bt s 4 + bt s 5 + bt s 6 = bcN s
  unfold bcN
  omega
def taS (σ : St) (i : Int) : Int := FI (fun a w => a + bcN (tiP σ w)) (if sPM σ < 0 then -4 else 0) i
theorem taS_s {σ : St} {i : Int} (h : 0 ≤ i) : taS σ (i + 1) = taS σ i + bcN (tiP σ i) := FI_s h
def gaS (σ : St) (i : Int) : Int := FI (fun a t => a + grV σ t) 0 i
theorem gaS_s {σ : St} {i : Int} (h : 0 ≤ i) : gaS σ (i + 1) = gaS σ i + grV σ i := FI_s h
theorem grV_F {σ σ' : St} (h : F83 σ σ') (t : Int) : grV σ' t = grV σ t := by
  unfold grV AMM KMM
  rw [lfV_F h, totM_F h, h 80 _ (by omega), h 80 _ (by omega)]
theorem grV_b {σ : St} (hM : MT (σ 80)) (t : Int) : -1000000 ≤ grV σ t ∧ grV σ t ≤ 1000000 := by
  have h1 := totM_b hM
  have h2 := lfV_b hM (AMM σ) (KMM σ - p2 t)
  unfold grV
  omega
def prS (σ : St) (i : Int) : Int := FI (fun a w => a + wtP σ w) (-(sPM σ)) i
theorem prS_s {σ : St} {i : Int} (h : 0 ≤ i) : prS σ (i + 1) = prS σ i + wtP σ i := FI_s h
set_option maxHeartbeats 4000000 in
set_option maxRecDepth 100000 in
theorem k_X7_taskOf (E0 : EV) {ad : Int → Nat} {σ : St} {x1 : Int} (hM : MT (σ 80)) (hN : N4 σ) (hx1 : InR x1) : MGE E0 yX7_taskOf wsX7_taskOf 5 119 ad σ [.ref (ad 79), .int (iI x1)] (PI (fun z σ' => z = (if 0 ≤ x1 ∧ x1 < σ 80 0 then n4 (plM σ x1) else -1) ∧ QM σ σ')) := by
  refine MGE.of (cc := cX7_taskOf) (maxL := 2) (ret := (some .int)) (own := RX7) [some (.ref (ad 79)), some (.int (iI x1))] (by decide +kernel) rfl rfl (Nat.le_of_ble_eq_true rfl) rfl rfl (fun E X hr => ?_)
  have i7 : ∀ w ∈ wsX70, w ∈ wsX7_taskOf := by decide +kernel
  refine g_rg (fun hR0 => ?_)
  have hm := hM.1
  have hn := hM.2.1
  have hw := mW_01 σ x1
  refine g_aload0 X dX7_taskOf_0 ?_
  refine g_iload1 X dX7_taskOf_1 ?_
  refine g_F1 X (k_X7_isWorker E hM hx1) gX7_taskOf_X7_isWorker rfl (by decide +kernel) (by decide) ob_79 (Nat.le_of_ble_eq_true rfl) dX7_taskOf_2 (fun hz2 => ?_)
  refine g_rg (fun hR2 => ?_)
  refine g_if_ne (tgt := 10) X (by first | exact hR2 _ _ | exact hR0 _ _ | assumption | (unfold InR; omega)) dX7_taskOf_5 (by decide) (fun h5 => ?_) (fun h5 => ?_)
  · skip
    refine g_aload0 X dX7_taskOf_10 ?_
    refine g_V0 X (k_X7_plans E hM hN) gX7_taskOf_X7_plans rfl (by decide +kernel) (by decide) ob_79 (Nat.le_of_ble_eq_true rfl) dX7_taskOf_11 (fun σ11 hp11 => ?_)
    refine g_rg (fun hR11 => ?_)
    have hF := hp11.1
    have hpc := hp11.2
    have f80 : ∀ k, σ11 80 k = σ 80 k := fun k => hF _ _ (by omega) (by omega)
    have f0 := f80 0
    have f1 := f80 1
    refine g_aload0 X dX7_taskOf_14 ?_
    refine gf_7_plan X i7 (by decide +kernel) dX7_taskOf_15 ?_
    refine g_iload1 X dX7_taskOf_18 ?_
    refine g_iald X (ia_84 (by omega)) dX7_taskOf_19 ?_
    exact g_iret X hr (by first | exact hR11 _ _ | exact hR2 _ _ | exact hR0 _ _ | assumption | (unfold InR; omega)) ⟨by rw [if_pos (by omega), hpc x1 (by omega) (by omega)], hF.qm⟩ dX7_taskOf_20
  · skip
    refine g_iconst X dX7_taskOf_8 ?_
    exact g_iret X hr (by first | exact hR2 _ _ | exact hR0 _ _ | assumption | (unfold InR; omega)) ⟨(by repeat (first | rw [if_pos (by omega)] | rw [if_neg (by omega)]); all_goals omega), QM.rf⟩ dX7_taskOf_9

set_option maxHeartbeats 4000000 in
set_option maxRecDepth 100000 in
theorem k_X7_workerOf (E0 : EV) {ad : Int → Nat} {σ : St} {x1 : Int} (hM : MT (σ 80)) (hN : N4 σ) (hx1 : InR x1) : MGE E0 yX7_workerOf wsX7_workerOf 5 119 ad σ [.ref (ad 79), .int (iI x1)] (PI (fun z σ' => z = (if 0 ≤ x1 ∧ x1 < σ 80 1 then woF σ x1 else -1) ∧ QM σ σ')) := by
  refine MGE.of (cc := cX7_workerOf) (maxL := 4) (ret := (some .int)) (own := RX7) [some (.ref (ad 79)), some (.int (iI x1)), none, none] (by decide +kernel) rfl rfl (Nat.le_of_ble_eq_true rfl) rfl rfl (fun E X hr => ?_)
  have i7 : ∀ w ∈ wsX70, w ∈ wsX7_workerOf := by decide +kernel
  refine g_rg (fun hR0 => ?_)
  have hm := hM.1
  have hn := hM.2.1
  have hw := mK_01 σ x1
  refine g_aload0 X dX7_workerOf_0 ?_
  refine g_iload1 X dX7_workerOf_1 ?_
  refine g_F1 X (k_X7_isTask E hM hx1) gX7_workerOf_X7_isTask rfl (by decide +kernel) (by decide) ob_79 (Nat.le_of_ble_eq_true rfl) dX7_workerOf_2 (fun hz2 => ?_)
  refine g_rg (fun hR2 => ?_)
  refine g_if_ne (tgt := 10) X (by first | exact hR2 _ _ | exact hR0 _ _ | assumption | (unfold InR; omega)) dX7_workerOf_5 (by decide) (fun h5 => ?_) (fun h5 => ?_)
  · skip
    refine g_aload0 X dX7_workerOf_10 ?_
    refine g_V0 X (k_X7_plans E hM hN) gX7_workerOf_X7_plans rfl (by decide +kernel) (by decide) ob_79 (Nat.le_of_ble_eq_true rfl) dX7_workerOf_11 (fun σ11 hp11 => ?_)
    refine g_rg (fun hR11 => ?_)
    have hF := hp11.1
    have hpc := hp11.2
    have f80 : ∀ k, σ11 80 k = σ 80 k := fun k => hF _ _ (by omega) (by omega)
    have f0 := f80 0
    have f1 := f80 1
    refine g_bipush X dX7_workerOf_14 (by decide +kernel) ?_
    refine g_istore2 X dX7_workerOf_16 (by decide) (by first | exact Or.inl rfl | exact Or.inr ⟨_, rfl, rfl⟩) ?_
    refine g_iconst X dX7_workerOf_17 ?_
    refine g_istore3 X dX7_workerOf_18 (by decide) (by first | exact Or.inl rfl | exact Or.inr ⟨_, rfl, rfl⟩) ?_
    have L19 : ∀ (n19 : Nat) (w f : Int), (σ 80 0 - w).toNat < n19 → (0 ≤ w ∧ w ≤ σ 80 0) → (-4 ≤ f ∧ f < 7) → (f = FI (fun a w => if n4 (plM σ w) = x1 then w else a) (-4) w) → WG E ad 4 σ11 19 [some (.ref (ad 79)), some (.int (iI x1)), some (.int (iI f)), some (.int (iI w))] [] := by
      intro n19
      induction n19 with
      | zero => intro w f hn; exact absurd hn (Nat.not_lt_zero _)
      | succ n19 ih19 =>
        intro w f hn19 hw0 hfb hf
        refine g_rg (fun hRL19 => ?_)
        refine g_iload3 X dX7_workerOf_19 ?_
        refine g_aload0 X dX7_workerOf_20 ?_
        refine gf_7_s X i7 (by decide +kernel) dX7_workerOf_21 ?_
        refine g_iconst X dX7_workerOf_24 ?_
        refine g_iald X (ia_80 (by omega)) dX7_workerOf_25 ?_
        refine g_icmp_ge (tgt := 51) X (by first | exact hRL19 _ _ | exact hR11 _ _ | exact hR2 _ _ | exact hR0 _ _ | assumption | (unfold InR; omega)) (by first | exact hRL19 _ _ | exact hR11 _ _ | exact hR2 _ _ | exact hR0 _ _ | assumption | (unfold InR; omega)) dX7_workerOf_26 (by decide) (fun h26 => ?_) (fun h26 => ?_)
        · skip
          refine g_iload2 X dX7_workerOf_51 ?_
          exact g_iret X hr (by first | exact hRL19 _ _ | exact hR11 _ _ | exact hR2 _ _ | exact hR0 _ _ | assumption | (unfold InR; omega)) ⟨by rw [if_pos (by omega), hf, show w = σ 80 0 by omega]; rfl, hF.qm⟩ dX7_workerOf_52
        · skip
          refine g_aload0 X dX7_workerOf_29 ?_
          refine gf_7_plan X i7 (by decide +kernel) dX7_workerOf_30 ?_
          refine g_iload3 X dX7_workerOf_33 ?_
          refine g_iald X (ia_84 (by omega)) dX7_workerOf_34 ?_
          have hpw := hpc w hw0.1 (by omega)
          refine g_iload1 X dX7_workerOf_35 ?_
          refine g_icmp_ne (tgt := 43) X (by first | exact hRL19 _ _ | exact hR11 _ _ | exact hR2 _ _ | exact hR0 _ _ | assumption | (unfold InR; omega)) (by first | exact hRL19 _ _ | exact hR11 _ _ | exact hR2 _ _ | exact hR0 _ _ | assumption | (unfold InR; omega)) dX7_workerOf_36 (by decide) (fun h36 => ?_) (fun h36 => ?_)
          · skip
            refine g_iload2 X dX7_workerOf_43 ?_
            refine g_istore2 X dX7_workerOf_44 (by decide) (by first | exact Or.inl rfl | exact Or.inr ⟨_, rfl, rfl⟩) ?_
            refine g_iinc3 X dX7_workerOf_45 (by decide) (by first | exact Or.inl rfl | exact Or.inr ⟨_, rfl, rfl⟩) ?_
            refine g_goto (tgt := 19) X dX7_workerOf_48 (by decide) ?_
            refine ih19 _ _ (by omega) ?_ ?_ ?_
            · omega
            · omega
            · rw [FI_s hw0.1, ← hf, ← hpw]
              first | (rw [if_pos (by omega)]; done) | (rw [if_neg (by omega)]; done)
          · skip
            refine g_iload3 X dX7_workerOf_39 ?_
            refine g_goto (tgt := 44) X dX7_workerOf_40 (by decide) ?_
            refine g_istore2 X dX7_workerOf_44 (by decide) (by first | exact Or.inl rfl | exact Or.inr ⟨_, rfl, rfl⟩) ?_
            refine g_iinc3 X dX7_workerOf_45 (by decide) (by first | exact Or.inl rfl | exact Or.inr ⟨_, rfl, rfl⟩) ?_
            refine g_goto (tgt := 19) X dX7_workerOf_48 (by decide) ?_
            refine ih19 _ _ (by omega) ?_ ?_ ?_
            · omega
            · omega
            · rw [FI_s hw0.1, ← hf, ← hpw]
              first | (rw [if_pos (by omega)]; done) | (rw [if_neg (by omega)]; done)
    refine L19 _ _ _ (Nat.lt_succ_self _) ?_ ?_ ?_
    · omega
    · omega
    · rfl
  · skip
    refine g_iconst X dX7_workerOf_8 ?_
    exact g_iret X hr (by first | exact hR2 _ _ | exact hR0 _ _ | assumption | (unfold InR; omega)) ⟨(by repeat (first | rw [if_pos (by omega)] | rw [if_neg (by omega)]); all_goals omega), QM.rf⟩ dX7_workerOf_9

set_option maxHeartbeats 4000000 in
set_option maxRecDepth 100000 in
theorem k_X7_totalFor (E0 : EV) {ad : Int → Nat} {σ : St} {x1 : Int} (hM : MT (σ 80)) (hx1 : InR x1) : MGE E0 yX7_totalFor wsX7_totalFor 3 72 ad σ [.ref (ad 79), .int (iI x1)] (PI (fun z σ' => z = (if 0 ≤ x1 ∧ x1 ≤ AMM σ then lfV σ x1 (KMM σ) else -1) ∧ QM σ σ')) := by
  refine MGE.of (cc := cX7_totalFor) (maxL := 2) (ret := (some .int)) (own := RX7) [some (.ref (ad 79)), some (.int (iI x1))] (by decide +kernel) rfl rfl (Nat.le_of_ble_eq_true rfl) rfl rfl (fun E X hr => ?_)
  refine g_rg (fun hR0 => ?_)
  have hm := hM.1
  have hn := hM.2.1
  have hpm := p2_n (n := σ 80 0) (by omega)
  have hpn := p2_n (n := σ 80 1) (by omega)
  have hb7 := bt_all (n := σ 80 1) (j := 7) (by omega) (by omega)
  rw [if_neg (by omega)] at hb7
  have hc := inB_01 x1 0 (p2 (σ 80 0) - 1)
  have eA : AMM σ = p2 (σ 80 0) - 1 := rfl
  refine g_iload1 X dX7_totalFor_0 ?_
  refine g_iconst X dX7_totalFor_1 ?_
  refine g_aload0 X dX7_totalFor_2 ?_
  refine g_F0 X (k_X7_allWorkers E hM) gX7_totalFor_X7_allWorkers rfl (by decide +kernel) (by decide) ob_79 (Nat.le_of_ble_eq_true rfl) dX7_totalFor_3 (fun hz3 => ?_)
  refine g_rg (fun hR3 => ?_)
  refine g_SF3 X (k_X7_in E (by first | assumption | (unfold InR; omega)) (by first | assumption | (unfold InR; omega)) (by first | assumption | (unfold InR; omega))) gX7_totalFor_X7_in rfl (by decide +kernel) (by decide) (Nat.le_of_ble_eq_true rfl) dX7_totalFor_6 (fun hz6 => ?_)
  refine g_rg (fun hR6 => ?_)
  refine g_if_eq (tgt := 24) X (by first | exact hR6 _ _ | exact hR3 _ _ | exact hR0 _ _ | assumption | (unfold InR; omega)) dX7_totalFor_9 (by decide) (fun h9 => ?_) (fun h9 => ?_)
  · skip
    refine g_iconst X dX7_totalFor_24 ?_
    exact g_iret X hr (by first | exact hR6 _ _ | exact hR3 _ _ | exact hR0 _ _ | assumption | (unfold InR; omega)) (by first | exact ⟨by rw [if_neg (by omega)], QM.rf⟩ | exact ⟨by rw [if_pos (by omega)]; exact hp18.1, hp18.2.qm⟩) dX7_totalFor_25
  · skip
    refine g_aload0 X dX7_totalFor_12 ?_
    refine g_iload1 X dX7_totalFor_13 ?_
    refine g_aload0 X dX7_totalFor_14 ?_
    refine g_F0 X (k_X7_allTasks E hM) gX7_totalFor_X7_allTasks rfl (by decide +kernel) (by decide) ob_79 (Nat.le_of_ble_eq_true rfl) dX7_totalFor_15 (fun hz15 => ?_)
    refine g_rg (fun hR15 => ?_)
    refine g_I2 X (k_X7_leastFor E hM (by omega) (by omega) (fun h => by omega)) gX7_totalFor_X7_leastFor rfl (by decide +kernel) (by decide) ob_79 (Nat.le_of_ble_eq_true rfl) dX7_totalFor_18 (fun z18 σ18 hz18 hp18 => ?_)
    refine g_rg (fun hR18 => ?_)
    have hlb := lfV_b hM x1 (p2 (σ 80 1) - 1)
    refine g_goto (tgt := 25) X dX7_totalFor_21 (by decide) ?_
    exact g_iret X hr (by first | exact hR18 _ _ | exact hR15 _ _ | exact hR6 _ _ | exact hR3 _ _ | exact hR0 _ _ | assumption | (unfold InR; omega)) (by first | exact ⟨by rw [if_neg (by omega)], QM.rf⟩ | exact ⟨by rw [if_pos (by omega)]; exact hp18.1, hp18.2.qm⟩) dX7_totalFor_25

set_option maxHeartbeats 4000000 in
set_option maxRecDepth 100000 in
theorem k_X7_price (E0 : EV) {ad : Int → Nat} {σ : St} {x1 x2 : Int} (hM : MT (σ 80)) (hN : N4 σ) (hx1 : InR x1) (hx2 : InR x2) : MGE E0 yX7_price wsX7_price 5 114 ad σ [.ref (ad 79), .int (iI x1), .int (iI x2)] (PI (fun z σ' => z = (if (0 ≤ x1 ∧ x1 < σ 80 1) ∧ 0 ≤ x2 ∧ x2 ≤ 1 then (if x2 = 0 then lpV σ x1 else grV σ x1) else -1) ∧ QM σ σ')) := by
  refine MGE.of (cc := cX7_price) (maxL := 3) (ret := (some .int)) (own := RX7) [some (.ref (ad 79)), some (.int (iI x1)), some (.int (iI x2))] (by decide +kernel) rfl rfl (Nat.le_of_ble_eq_true rfl) rfl rfl (fun E X hr => ?_)
  refine g_rg (fun hR0 => ?_)
  have hm := hM.1
  have hn := hM.2.1
  have hw := mK_01 σ x1
  have hc := inB_01 x2 0 1
  refine g_aload0 X dX7_price_0 ?_
  refine g_iload1 X dX7_price_1 ?_
  refine g_F1 X (k_X7_isTask E hM hx1) gX7_price_X7_isTask rfl (by decide +kernel) (by decide) ob_79 (Nat.le_of_ble_eq_true rfl) dX7_price_2 (fun hz2 => ?_)
  refine g_rg (fun hR2 => ?_)
  refine g_if_eq (tgt := 17) X (by first | exact hR2 _ _ | exact hR0 _ _ | assumption | (unfold InR; omega)) dX7_price_5 (by decide) (fun h5 => ?_) (fun h5 => ?_)
  · skip
    refine g_iconst X dX7_price_17 ?_
    exact g_iret X hr (by first | exact hR2 _ _ | exact hR0 _ _ | assumption | (unfold InR; omega)) (by first | exact ⟨by rw [if_neg (by omega)], QM.rf⟩ | exact ⟨by rw [if_pos (by omega), if_pos (by omega)]; exact hp25.1, hp25.2.qm⟩ | exact ⟨by rw [if_pos (by omega), if_neg (by omega)]; exact hp33.1, hp33.2.qm⟩) dX7_price_18
  · skip
    refine g_iload2 X dX7_price_8 ?_
    refine g_iconst X dX7_price_9 ?_
    refine g_iconst X dX7_price_10 ?_
    refine g_SF3 X (k_X7_in E (by first | assumption | (unfold InR; omega)) (by first | assumption | (unfold InR; omega)) (by first | assumption | (unfold InR; omega))) gX7_price_X7_in rfl (by decide +kernel) (by decide) (Nat.le_of_ble_eq_true rfl) dX7_price_11 (fun hz11 => ?_)
    refine g_rg (fun hR11 => ?_)
    refine g_if_ne (tgt := 19) X (by first | exact hR11 _ _ | exact hR2 _ _ | exact hR0 _ _ | assumption | (unfold InR; omega)) dX7_price_14 (by decide) (fun h14 => ?_) (fun h14 => ?_)
    · skip
      refine g_iload2 X dX7_price_19 ?_
      refine g_if_ne (tgt := 31) X (by first | exact hR11 _ _ | exact hR2 _ _ | exact hR0 _ _ | assumption | (unfold InR; omega)) dX7_price_20 (by decide) (fun h20 => ?_) (fun h20 => ?_)
      · skip
        refine g_aload0 X dX7_price_31 ?_
        refine g_iload1 X dX7_price_32 ?_
        refine g_I1 X (k_X7_greatestPrice E hM (by omega)) gX7_price_X7_greatestPrice rfl (by decide +kernel) (by decide) ob_79 (Nat.le_of_ble_eq_true rfl) dX7_price_33 (fun z33 σ33 hz33 hp33 => ?_)
        refine g_rg (fun hR33 => ?_)
        exact g_iret X hr (by first | exact hR33 _ _ | exact hR11 _ _ | exact hR2 _ _ | exact hR0 _ _ | assumption | (unfold InR; omega)) (by first | exact ⟨by rw [if_neg (by omega)], QM.rf⟩ | exact ⟨by rw [if_pos (by omega), if_pos (by omega)]; exact hp25.1, hp25.2.qm⟩ | exact ⟨by rw [if_pos (by omega), if_neg (by omega)]; exact hp33.1, hp33.2.qm⟩) dX7_price_36
      · skip
        refine g_aload0 X dX7_price_23 ?_
        refine g_iload1 X dX7_price_24 ?_
        refine g_I1 X (k_X7_leastPrice E hM hN (by omega)) gX7_price_X7_leastPrice rfl (by decide +kernel) (by decide) ob_79 (Nat.le_of_ble_eq_true rfl) dX7_price_25 (fun z25 σ25 hz25 hp25 => ?_)
        refine g_rg (fun hR25 => ?_)
        refine g_goto (tgt := 36) X dX7_price_28 (by decide) ?_
        exact g_iret X hr (by first | exact hR25 _ _ | exact hR11 _ _ | exact hR2 _ _ | exact hR0 _ _ | assumption | (unfold InR; omega)) (by first | exact ⟨by rw [if_neg (by omega)], QM.rf⟩ | exact ⟨by rw [if_pos (by omega), if_pos (by omega)]; exact hp25.1, hp25.2.qm⟩ | exact ⟨by rw [if_pos (by omega), if_neg (by omega)]; exact hp33.1, hp33.2.qm⟩) dX7_price_36
    · skip
      refine g_iconst X dX7_price_17 ?_
      exact g_iret X hr (by first | exact hR11 _ _ | exact hR2 _ _ | exact hR0 _ _ | assumption | (unfold InR; omega)) (by first | exact ⟨by rw [if_neg (by omega)], QM.rf⟩ | exact ⟨by rw [if_pos (by omega), if_pos (by omega)]; exact hp25.1, hp25.2.qm⟩ | exact ⟨by rw [if_pos (by omega), if_neg (by omega)]; exact hp33.1, hp33.2.qm⟩) dX7_price_18

set_option maxHeartbeats 4000000 in
set_option maxRecDepth 100000 in
theorem k_X7_pricesAll (E0 : EV) {ad : Int → Nat} {σ : St} (hM : MT (σ 80)) (hN : N4 σ) : MGE E0 yX7_pricesAll wsX7_pricesAll 5 114 ad σ [.ref (ad 79)] (PI (fun z σ' => z = sPM σ ∧ PRN σ σ')) := by
  refine MGE.of (cc := cX7_pricesAll) (maxL := 3) (ret := (some .int)) (own := RX7) [some (.ref (ad 79)), none, none] (by decide +kernel) rfl rfl (Nat.le_of_ble_eq_true rfl) rfl rfl (fun E X hr => ?_)
  have i7 : ∀ w ∈ wsX70, w ∈ wsX7_pricesAll := by decide +kernel
  refine g_rg (fun hR0 => ?_)
  have hm := hM.1
  have hn := hM.2.1
  refine g_iconst X dX7_pricesAll_0 ?_
  refine g_istore1 X dX7_pricesAll_1 (by decide) (by first | exact Or.inl rfl | exact Or.inr ⟨_, rfl, rfl⟩) ?_
  refine g_iconst X dX7_pricesAll_2 ?_
  refine g_istore2 X dX7_pricesAll_3 (by decide) (by first | exact Or.inl rfl | exact Or.inr ⟨_, rfl, rfl⟩) ?_
  have L4 : ∀ (n4 : Nat) (t a : Int) (σ1 : St), (σ 80 1 - t).toNat < n4 → (0 ≤ t ∧ t ≤ σ 80 1) → (-1000000 * t ≤ a ∧ a ≤ 1000000 * t) → (a = sPs σ t) → (F85 σ σ1) → (∀ j, 0 ≤ j → j < t → σ1 85 j = lpV σ j) → WG E ad 3 σ1 4 [some (.ref (ad 79)), some (.int (iI a)), some (.int (iI t))] [] := by
    intro n4
    induction n4 with
    | zero => intro t a σ1 hn; exact absurd hn (Nat.not_lt_zero _)
    | succ n4 ih4 =>
      intro t a σ1 hn4 ht hab ha hF hpc
      refine g_rg (fun hRL4 => ?_)
      have f1 : σ1 80 1 = σ 80 1 := hF _ _ (by omega) (by omega)
      refine g_iload2 X dX7_pricesAll_4 ?_
      refine g_aload0 X dX7_pricesAll_5 ?_
      refine gf_7_s X i7 (by decide +kernel) dX7_pricesAll_6 ?_
      refine g_iconst X dX7_pricesAll_9 ?_
      refine g_iald X (ia_80 (by omega)) dX7_pricesAll_10 ?_
      refine g_icmp_ge (tgt := 40) X (by first | exact hRL4 _ _ | exact hR0 _ _ | assumption | (unfold InR; omega)) (by first | exact hRL4 _ _ | exact hR0 _ _ | assumption | (unfold InR; omega)) dX7_pricesAll_11 (by decide) (fun h11 => ?_) (fun h11 => ?_)
      · skip
        refine g_iload1 X dX7_pricesAll_40 ?_
        exact g_iret X hr (by first | exact hRL4 _ _ | exact hR0 _ _ | assumption | (unfold InR; omega)) ⟨by rw [ha, show t = σ 80 1 by omega]; rfl, hF, fun j a b => hpc j a (by omega)⟩ dX7_pricesAll_41
      · skip
        refine g_aload0 X dX7_pricesAll_14 ?_
        refine gf_7_prices X i7 (by decide +kernel) dX7_pricesAll_15 ?_
        refine g_iload2 X dX7_pricesAll_18 ?_
        refine g_aload0 X dX7_pricesAll_19 ?_
        refine g_iload2 X dX7_pricesAll_20 ?_
        refine g_I1 X (k_X7_leastPrice E (hF.mt hM) (hF.n4 hN) (by omega)) gX7_pricesAll_X7_leastPrice rfl (by decide +kernel) (by decide) ob_79 (Nat.le_of_ble_eq_true rfl) dX7_pricesAll_21 (fun z21 σ21 hz21 hp21 => ?_)
        refine g_rg (fun hR21 => ?_)
        have hz21 := hp21.1
        rw [hF.lp] at hz21
        have hlb := lpV_b hM t
        have hF21 : F85 σ σ21 := hF.tr hp21.2.f85
        have hR9 := hR21
        refine g_iast X (ia_85 (by omega)) (by first | exact hR21 _ _ | exact hRL4 _ _ | exact hR0 _ _ | assumption | (unfold InR; omega)) dX7_pricesAll_24 ?_
        refine g_rg (fun hR24 => ?_)
        obtain ⟨σ3, hσ3⟩ : ∃ s : St, s = up σ21 85 t z21 := ⟨_, rfl⟩
        rw [← hσ3]
        have hF3 : F85 σ σ3 := fun q k a b => by rw [hσ3, up_o (by omega)]; exact hF21 q k a b
        have h3t : σ3 85 t = z21 := by rw [hσ3, up_e]
        refine g_iload1 X dX7_pricesAll_25 ?_
        refine g_aload0 X dX7_pricesAll_26 ?_
        refine gf_7_prices X i7 (by decide +kernel) dX7_pricesAll_27 ?_
        refine g_iload2 X dX7_pricesAll_30 ?_
        refine g_iald X (ia_85 (by omega)) dX7_pricesAll_31 ?_
        refine g_iadd X dX7_pricesAll_32 ?_
        refine g_istore1 X dX7_pricesAll_33 (by decide) (by first | exact Or.inl rfl | exact Or.inr ⟨_, rfl, rfl⟩) ?_
        refine g_iinc2 X dX7_pricesAll_34 (by decide) (by first | exact Or.inl rfl | exact Or.inr ⟨_, rfl, rfl⟩) ?_
        refine g_goto (tgt := 4) X dX7_pricesAll_37 (by decide) ?_
        refine ih4 _ _ _ (by omega) ?_ ?_ ?_ ?_ ?_
        · omega
        · omega
        · rw [sPs_s ht.1, ← ha, ← hz21, h3t]
        · exact hF3
        · intro j a b
          by_cases hj : j = t
          · rw [hj, h3t, hz21]
          · rw [hσ3, up_o (by omega), hp21.2 _ _ (by omega)]; exact hpc j a (by omega)
  refine L4 _ _ _ _ (Nat.lt_succ_self _) ?_ ?_ ?_ ?_ ?_
  · omega
  · omega
  · rfl
  · exact F85.rf
  · intro j a b
    omega

set_option maxHeartbeats 4000000 in
set_option maxRecDepth 100000 in
theorem k_X7_worth (E0 : EV) {ad : Int → Nat} {σ : St} {x1 : Int} (hM : MT (σ 80)) (hP5 : P5 σ) (hw : 0 ≤ x1 ∧ x1 < 7) : MGE E0 yX7_worth wsX7_worth 1 22 ad σ [.ref (ad 79), .int (iI x1)] (PF (wtR σ x1) σ) := by
  refine MGE.of (cc := cX7_worth) (maxL := 4) (ret := (some .int)) (own := RX7) [some (.ref (ad 79)), some (.int (iI x1)), none, none] (by decide +kernel) rfl rfl (Nat.le_of_ble_eq_true rfl) rfl rfl (fun E X hr => ?_)
  have i7 : ∀ w ∈ wsX70, w ∈ wsX7_worth := by decide +kernel
  refine g_rg (fun hR0 => ?_)
  have hm := hM.1
  have hn := hM.2.1
  have hd := hM.2.2.1 x1 hw.1 hw.2
  refine g_aload0 X dX7_worth_0 ?_
  refine gf_7_s X i7 (by decide +kernel) dX7_worth_1 ?_
  refine g_iconst X dX7_worth_4 ?_
  refine g_iload1 X dX7_worth_5 ?_
  refine g_iadd X dX7_worth_6 ?_
  refine g_iald X (ia_80 (by omega)) dX7_worth_7 ?_
  refine g_istore2 X dX7_worth_8 (by decide) (by first | exact Or.inl rfl | exact Or.inr ⟨_, rfl, rfl⟩) ?_
  refine g_iconst X dX7_worth_9 ?_
  refine g_istore3 X dX7_worth_10 (by decide) (by first | exact Or.inl rfl | exact Or.inr ⟨_, rfl, rfl⟩) ?_
  have L11 : ∀ (n11 : Nat) (t a : Int), (7 - t).toNat < n11 → (0 ≤ t ∧ t ≤ σ 80 1) → (-1000001 ≤ a ∧ a ≤ 9999) → (a = wtS σ x1 t) → WG E ad 4 σ 11 [some (.ref (ad 79)), some (.int (iI x1)), some (.int (iI a)), some (.int (iI t))] [] := by
    intro n11
    induction n11 with
    | zero => intro t a hn; exact absurd hn (Nat.not_lt_zero _)
    | succ n11 ih11 =>
      intro t a hn11 ht hab ha
      refine g_rg (fun hRL11 => ?_)
      refine g_iload3 X dX7_worth_11 ?_
      refine g_aload0 X dX7_worth_12 ?_
      refine gf_7_s X i7 (by decide +kernel) dX7_worth_13 ?_
      refine g_iconst X dX7_worth_16 ?_
      refine g_iald X (ia_80 (by omega)) dX7_worth_17 ?_
      refine g_icmp_ge (tgt := 71) X (by first | exact hRL11 _ _ | exact hR0 _ _ | assumption | (unfold InR; omega)) (by first | exact hRL11 _ _ | exact hR0 _ _ | assumption | (unfold InR; omega)) dX7_worth_18 (by decide) (fun h18 => ?_) (fun h18 => ?_)
      · skip
        refine g_iload2 X dX7_worth_71 ?_
        exact g_iretF X hr (by first | exact hRL11 _ _ | exact hR0 _ _ | assumption | (unfold InR; omega)) ⟨by rw [ha, show t = σ 80 1 by omega]; rfl, rfl⟩ dX7_worth_72
      · skip
        refine g_aload0 X dX7_worth_21 ?_
        refine g_iload1 X dX7_worth_22 ?_
        refine g_iload3 X dX7_worth_23 ?_
        refine g_F2 X (k_X7_of E (by omega) (by omega)) gX7_worth_X7_of rfl (by decide +kernel) (by decide) ob_79 (Nat.le_of_ble_eq_true rfl) dX7_worth_24 (fun hz24 => ?_)
        refine g_rg (fun hR24 => ?_)
        have hcm : cM σ x1 t = σ 80 (9 + 7 * x1 + t) := rfl
        have hcb := hM.2.2.2 x1 t hw.1 hw.2 (by omega) (by omega)
        have h5 := hP5 t (by omega) (by omega)
        refine g_if_lt (tgt := 63) X (by first | exact hR24 _ _ | exact hRL11 _ _ | exact hR0 _ _ | assumption | (unfold InR; omega)) dX7_worth_27 (by decide) (fun h27 => ?_) (fun h27 => ?_)
        · skip
          refine g_iload2 X dX7_worth_63 ?_
          refine g_istore2 X dX7_worth_64 (by decide) (by first | exact Or.inl rfl | exact Or.inr ⟨_, rfl, rfl⟩) ?_
          refine g_iinc3 X dX7_worth_65 (by decide) (by first | exact Or.inl rfl | exact Or.inr ⟨_, rfl, rfl⟩) ?_
          refine g_goto (tgt := 11) X dX7_worth_68 (by decide) ?_
          refine ih11 _ _ (by omega) ?_ ?_ ?_
          · omega
          · omega
          · rw [wtS_s ht.1, ← ha]
            first | (rw [if_pos (by omega)]; done) | (rw [if_neg (by omega)]; done)
        · skip
          refine g_aload0 X dX7_worth_30 ?_
          refine g_iload1 X dX7_worth_31 ?_
          refine g_iload3 X dX7_worth_32 ?_
          refine g_F2 X (k_X7_of E (by omega) (by omega)) gX7_worth_X7_of rfl (by decide +kernel) (by decide) ob_79 (Nat.le_of_ble_eq_true rfl) dX7_worth_33 (fun hz33 => ?_)
          refine g_rg (fun hR33 => ?_)
          refine g_aload0 X dX7_worth_36 ?_
          refine gf_7_prices X i7 (by decide +kernel) dX7_worth_37 ?_
          refine g_iload3 X dX7_worth_40 ?_
          refine g_iald X (ia_85 (by omega)) dX7_worth_41 ?_
          refine g_iadd X dX7_worth_42 ?_
          refine g_iload2 X dX7_worth_43 ?_
          refine g_icmp_ge (tgt := 63) X (by first | exact hR33 _ _ | exact hR24 _ _ | exact hRL11 _ _ | exact hR0 _ _ | assumption | (unfold InR; omega)) (by first | exact hR33 _ _ | exact hR24 _ _ | exact hRL11 _ _ | exact hR0 _ _ | assumption | (unfold InR; omega)) dX7_worth_44 (by decide) (fun h44 => ?_) (fun h44 => ?_)
          · skip
            refine g_iload2 X dX7_worth_63 ?_
            refine g_istore2 X dX7_worth_64 (by decide) (by first | exact Or.inl rfl | exact Or.inr ⟨_, rfl, rfl⟩) ?_
            refine g_iinc3 X dX7_worth_65 (by decide) (by first | exact Or.inl rfl | exact Or.inr ⟨_, rfl, rfl⟩) ?_
            refine g_goto (tgt := 11) X dX7_worth_68 (by decide) ?_
            refine ih11 _ _ (by omega) ?_ ?_ ?_
            · omega
            · omega
            · rw [wtS_s ht.1, ← ha]
              first | (rw [if_pos (by omega)]; done) | (rw [if_neg (by omega)]; done)
          · skip
            refine g_aload0 X dX7_worth_47 ?_
            refine g_iload1 X dX7_worth_48 ?_
            refine g_iload3 X dX7_worth_49 ?_
            refine g_F2 X (k_X7_of E (by omega) (by omega)) gX7_worth_X7_of rfl (by decide +kernel) (by decide) ob_79 (Nat.le_of_ble_eq_true rfl) dX7_worth_50 (fun hz50 => ?_)
            refine g_rg (fun hR50 => ?_)
            refine g_aload0 X dX7_worth_53 ?_
            refine gf_7_prices X i7 (by decide +kernel) dX7_worth_54 ?_
            refine g_iload3 X dX7_worth_57 ?_
            refine g_iald X (ia_85 (by omega)) dX7_worth_58 ?_
            refine g_iadd X dX7_worth_59 ?_
            refine g_goto (tgt := 64) X dX7_worth_60 (by decide) ?_
            refine g_istore2 X dX7_worth_64 (by decide) (by first | exact Or.inl rfl | exact Or.inr ⟨_, rfl, rfl⟩) ?_
            refine g_iinc3 X dX7_worth_65 (by decide) (by first | exact Or.inl rfl | exact Or.inr ⟨_, rfl, rfl⟩) ?_
            refine g_goto (tgt := 11) X dX7_worth_68 (by decide) ?_
            refine ih11 _ _ (by omega) ?_ ?_ ?_
            · omega
            · omega
            · rw [wtS_s ht.1, ← ha]
              first | (rw [if_pos (by omega)]; done) | (rw [if_neg (by omega)]; done)
  refine L11 _ _ _ (Nat.lt_succ_self _) ?_ ?_ ?_
  · omega
  · omega
  · rfl

set_option maxHeartbeats 4000000 in
set_option maxRecDepth 100000 in
theorem k_X7_tight (E0 : EV) {ad : Int → Nat} {σ : St} {x1 : Int} (hM : MT (σ 80)) (hP5 : P5 σ) (hw : 0 ≤ x1 ∧ x1 < 7) : MGE E0 yX7_tight wsX7_tight 2 45 ad σ [.ref (ad 79), .int (iI x1)] (PF (tiR σ x1) σ) := by
  refine MGE.of (cc := cX7_tight) (maxL := 5) (ret := (some .int)) (own := RX7) [some (.ref (ad 79)), some (.int (iI x1)), none, none, none] (by decide +kernel) rfl rfl (Nat.le_of_ble_eq_true rfl) rfl rfl (fun E X hr => ?_)
  have i7 : ∀ w ∈ wsX70, w ∈ wsX7_tight := by decide +kernel
  refine g_rg (fun hR0 => ?_)
  have hm := hM.1
  have hn := hM.2.1
  have hwb := wtR_b hM hP5 hw
  have hpn := p2_n (n := σ 80 1) (by omega)
  refine g_iconst X dX7_tight_0 ?_
  refine g_istore2 X dX7_tight_1 (by decide) (by first | exact Or.inl rfl | exact Or.inr ⟨_, rfl, rfl⟩) ?_
  refine g_aload0 X dX7_tight_2 ?_
  refine g_iload1 X dX7_tight_3 ?_
  refine g_F1 X (k_X7_worth E hM hP5 (by omega)) gX7_tight_X7_worth rfl (by decide +kernel) (by decide) ob_79 (Nat.le_of_ble_eq_true rfl) dX7_tight_4 (fun hz4 => ?_)
  refine g_rg (fun hR4 => ?_)
  refine g_istore3 X dX7_tight_7 (by decide) (by first | exact Or.inl rfl | exact Or.inr ⟨_, rfl, rfl⟩) ?_
  refine g_iconst X dX7_tight_8 ?_
  refine g_istore4 X dX7_tight_9 (by decide) (by first | exact Or.inl rfl | exact Or.inr ⟨_, rfl, rfl⟩) ?_
  have L11 : ∀ (n11 : Nat) (t s : Int), (7 - t).toNat < n11 → (0 ≤ t ∧ t ≤ σ 80 1) → (0 ≤ s ∧ s < p2 (σ 80 1)) → (s = tiS σ x1 t) → WG E ad 5 σ 11 [some (.ref (ad 79)), some (.int (iI x1)), some (.int (iI s)), some (.int (iI (wtR σ x1))), some (.int (iI t))] [] := by
    intro n11
    induction n11 with
    | zero => intro t s hn; exact absurd hn (Nat.not_lt_zero _)
    | succ n11 ih11 =>
      intro t s hn11 ht hsb hs
      refine g_rg (fun hRL11 => ?_)
      refine g_iload4 X dX7_tight_11 ?_
      refine g_aload0 X dX7_tight_13 ?_
      refine gf_7_s X i7 (by decide +kernel) dX7_tight_14 ?_
      refine g_iconst X dX7_tight_17 ?_
      refine g_iald X (ia_80 (by omega)) dX7_tight_18 ?_
      refine g_icmp_ge (tgt := 68) X (by first | exact hRL11 _ _ | exact hR4 _ _ | exact hR0 _ _ | assumption | (unfold InR; omega)) (by first | exact hRL11 _ _ | exact hR4 _ _ | exact hR0 _ _ | assumption | (unfold InR; omega)) dX7_tight_19 (by decide) (fun h19 => ?_) (fun h19 => ?_)
      · skip
        refine g_iload2 X dX7_tight_68 ?_
        exact g_iretF X hr (by first | exact hRL11 _ _ | exact hR4 _ _ | exact hR0 _ _ | assumption | (unfold InR; omega)) ⟨by rw [hs, show t = σ 80 1 by omega]; rfl, rfl⟩ dX7_tight_69
      · skip
        refine g_iload2 X dX7_tight_22 ?_
        refine g_aload0 X dX7_tight_23 ?_
        refine g_iload1 X dX7_tight_24 ?_
        refine g_iload4 X dX7_tight_25 ?_
        have hcm : cM σ x1 t = σ 80 (9 + 7 * x1 + t) := rfl
        have hcb := hM.2.2.2 x1 t hw.1 hw.2 (by omega) (by omega)
        have h5 := hP5 t (by omega) (by omega)
        have hpt := p2_k (k := t) (by omega)
        have J60 : ∀ v : Int, ((v = p2 t ∧ 0 ≤ cM σ x1 t ∧ cM σ x1 t + σ 85 t = wtR σ x1) ∨ (v = 0 ∧ ¬ (0 ≤ cM σ x1 t ∧ cM σ x1 t + σ 85 t = wtR σ x1))) → WG E ad 5 σ 60 [some (.ref (ad 79)), some (.int (iI x1)), some (.int (iI s)), some (.int (iI (wtR σ x1))), some (.int (iI t))] [.int (iI v), .int (iI s)] := by
          intro v hv
          have hv2 : v = 0 ∨ v = p2 t := by omega
          refine g_ior X (b_orv (by omega) (by omega) hv2) dX7_tight_60 ?_
          refine g_istore2 X dX7_tight_61 (by decide) (by first | exact Or.inl rfl | exact Or.inr ⟨_, rfl, rfl⟩) ?_
          refine g_iinc4 X dX7_tight_62 (by decide) (by first | exact Or.inl rfl | exact Or.inr ⟨_, rfl, rfl⟩) ?_
          refine g_goto (tgt := 11) X dX7_tight_65 (by decide) ?_
          refine ih11 _ _ (by omega) ?_ ?_ ?_
          · omega
          · have h9 := sb_lt (m := s) (k := t) (n := σ 80 1) hsb (by omega) (by omega)
            by_cases h : v = 0
            · rw [if_pos h]; exact hsb
            · rw [if_neg h]; exact h9
          · rw [tiS_s ht.1, ← hs]
            rcases hv with hv | hv
            · rw [if_neg (by omega), if_pos hv.2]
            · rw [if_pos (by omega), if_neg hv.2]
        refine g_F2 X (k_X7_of E (by omega) (by omega)) gX7_tight_X7_of rfl (by decide +kernel) (by decide) ob_79 (Nat.le_of_ble_eq_true rfl) dX7_tight_27 (fun hz27 => ?_)
        refine g_rg (fun hR27 => ?_)
        refine g_if_lt (tgt := 59) X (by first | exact hR27 _ _ | exact hRL11 _ _ | exact hR4 _ _ | exact hR0 _ _ | assumption | (unfold InR; omega)) dX7_tight_30 (by decide) (fun h30 => ?_) (fun h30 => ?_)
        · skip
          refine g_iconst X dX7_tight_59 ?_
          first | exact J60 _ (Or.inl ⟨rfl, by omega⟩) | exact J60 _ (Or.inr ⟨rfl, by omega⟩)
        · skip
          refine g_aload0 X dX7_tight_33 ?_
          refine g_iload1 X dX7_tight_34 ?_
          refine g_iload4 X dX7_tight_35 ?_
          refine g_F2 X (k_X7_of E (by omega) (by omega)) gX7_tight_X7_of rfl (by decide +kernel) (by decide) ob_79 (Nat.le_of_ble_eq_true rfl) dX7_tight_37 (fun hz37 => ?_)
          refine g_rg (fun hR37 => ?_)
          refine g_aload0 X dX7_tight_40 ?_
          refine gf_7_prices X i7 (by decide +kernel) dX7_tight_41 ?_
          refine g_iload4 X dX7_tight_44 ?_
          refine g_iald X (ia_85 (by omega)) dX7_tight_46 ?_
          refine g_iadd X dX7_tight_47 ?_
          refine g_iload3 X dX7_tight_48 ?_
          refine g_icmp_ne (tgt := 59) X (by first | exact hR37 _ _ | exact hR27 _ _ | exact hRL11 _ _ | exact hR4 _ _ | exact hR0 _ _ | assumption | (unfold InR; omega)) (by first | exact hR37 _ _ | exact hR27 _ _ | exact hRL11 _ _ | exact hR4 _ _ | exact hR0 _ _ | assumption | (unfold InR; omega)) dX7_tight_49 (by decide) (fun h49 => ?_) (fun h49 => ?_)
          · skip
            refine g_iconst X dX7_tight_59 ?_
            first | exact J60 _ (Or.inl ⟨rfl, by omega⟩) | exact J60 _ (Or.inr ⟨rfl, by omega⟩)
          · skip
            refine g_iconst X dX7_tight_52 ?_
            refine g_iload4 X dX7_tight_53 ?_
            refine g_ishl X (b_shl (by omega)) dX7_tight_55 ?_
            refine g_goto (tgt := 60) X dX7_tight_56 (by decide) ?_
            first | exact J60 _ (Or.inl ⟨rfl, by omega⟩) | exact J60 _ (Or.inr ⟨rfl, by omega⟩)
  refine L11 _ _ _ (Nat.lt_succ_self _) ?_ ?_ ?_
  · omega
  · omega
  · rfl

set_option maxHeartbeats 4000000 in
set_option maxRecDepth 100000 in
theorem k_X7_workerIs (E0 : EV) {ad : Int → Nat} {σ : St} {x1 x2 : Int} (hM : MT (σ 80)) (hN : N4 σ) (hx1 : InR x1) (hx2 : InR x2) : MGE E0 yX7_workerIs wsX7_workerIs 6 136 ad σ [.ref (ad 79), .int (iI x1), .int (iI x2)] (PI (fun z σ' => z = (if (0 ≤ x1 ∧ x1 < σ 80 0) ∧ 0 ≤ x2 ∧ x2 ≤ 3 then (if x2 = 3 then whV σ x1 else if sPM σ < 0 then -4 else if x2 = 0 then wtP σ x1 else if x2 = 1 then tiP σ x1 else if wtP σ x1 = dM σ x1 then 1 else 0) else -1) ∧ QM σ σ')) := by
  refine MGE.of (cc := cX7_workerIs) (maxL := 4) (ret := (some .int)) (own := RX7) [some (.ref (ad 79)), some (.int (iI x1)), some (.int (iI x2)), none] (by decide +kernel) rfl rfl (Nat.le_of_ble_eq_true rfl) rfl rfl (fun E X hr => ?_)
  have i7 : ∀ w ∈ wsX70, w ∈ wsX7_workerIs := by decide +kernel
  refine g_rg (fun hR0 => ?_)
  have hm := hM.1
  have hn := hM.2.1
  have hpm := p2_n (n := σ 80 0) (by omega)
  have hpn := p2_n (n := σ 80 1) (by omega)
  have hb7 := bt_all (n := σ 80 1) (j := 7) (by omega) (by omega)
  rw [if_neg (by omega)] at hb7
  have hw := mW_01 σ x1
  have hc := inB_01 x2 0 3
  have htb := totM_b hM
  refine g_aload0 X dX7_workerIs_0 ?_
  refine g_iload1 X dX7_workerIs_1 ?_
  refine g_F1 X (k_X7_isWorker E hM hx1) gX7_workerIs_X7_isWorker rfl (by decide +kernel) (by decide) ob_79 (Nat.le_of_ble_eq_true rfl) dX7_workerIs_2 (fun hz2 => ?_)
  refine g_rg (fun hR2 => ?_)
  refine g_if_eq (tgt := 17) X (by first | exact hR2 _ _ | exact hR0 _ _ | assumption | (unfold InR; omega)) dX7_workerIs_5 (by decide) (fun h5 => ?_) (fun h5 => ?_)
  · skip
    refine g_iconst X dX7_workerIs_17 ?_
    exact g_iret X hr (by first | exact hR2 _ _ | exact hR0 _ _ | assumption | (unfold InR; omega)) (by first | exact ⟨by rw [if_neg (by omega)], QM.rf⟩ | exact ⟨by rw [if_pos (by omega), if_pos (by omega), hz25, hz41]; rfl, hF8.qm.tr hp41.2.qm⟩ | exact ⟨by rw [if_pos (by omega), if_neg (by omega), if_pos (by omega)], hF.qm⟩ | exact ⟨by rw [if_pos (by omega), if_neg (by omega), if_neg (by omega), if_pos (by omega), ewt], hF.qm⟩ | exact ⟨by rw [if_pos (by omega), if_neg (by omega), if_neg (by omega), if_neg (by omega), if_pos (by omega), eti], hF.qm⟩ | exact ⟨by rw [if_pos (by omega), if_neg (by omega), if_neg (by omega), if_neg (by omega), if_neg (by omega)]; first | (rw [if_pos (by omega)]; done) | (rw [if_neg (by omega)]; done), hF.qm⟩) dX7_workerIs_18
  · skip
    refine g_iload2 X dX7_workerIs_8 ?_
    refine g_iconst X dX7_workerIs_9 ?_
    refine g_iconst X dX7_workerIs_10 ?_
    refine g_SF3 X (k_X7_in E (by first | assumption | (unfold InR; omega)) (by first | assumption | (unfold InR; omega)) (by first | assumption | (unfold InR; omega))) gX7_workerIs_X7_in rfl (by decide +kernel) (by decide) (Nat.le_of_ble_eq_true rfl) dX7_workerIs_11 (fun hz11 => ?_)
    refine g_rg (fun hR11 => ?_)
    refine g_if_ne (tgt := 19) X (by first | exact hR11 _ _ | exact hR2 _ _ | exact hR0 _ _ | assumption | (unfold InR; omega)) dX7_workerIs_14 (by decide) (fun h14 => ?_) (fun h14 => ?_)
    · skip
      refine g_iload2 X dX7_workerIs_19 ?_
      refine g_iconst X dX7_workerIs_20 ?_
      refine g_icmp_ne (tgt := 46) X (by first | exact hR11 _ _ | exact hR2 _ _ | exact hR0 _ _ | assumption | (unfold InR; omega)) (by first | exact hR11 _ _ | exact hR2 _ _ | exact hR0 _ _ | assumption | (unfold InR; omega)) dX7_workerIs_21 (by decide) (fun h21 => ?_) (fun h21 => ?_)
      · skip
        refine g_aload0 X dX7_workerIs_46 ?_
        refine g_I0 X (k_X7_pricesAll E hM hN) gX7_workerIs_X7_pricesAll rfl (by decide +kernel) (by decide) ob_79 (Nat.le_of_ble_eq_true rfl) dX7_workerIs_47 (fun z47 σ47 hz47 hp47 => ?_)
        refine g_rg (fun hR47 => ?_)
        have hPN := hp47.2
        have hF := hPN.1
        have hM5 := hF.mt hM
        have hP5 := hPN.p5 hM
        have f80 : ∀ k, σ47 80 k = σ 80 k := fun k => hF _ _ (by omega) (by omega)
        have f0 := f80 0
        have f1 := f80 1
        have hz47 := hp47.1
        have ewt := hPN.wt hM x1
        have eti := hPN.ti hM x1
        have f2 : σ47 80 (2 + x1) = dM σ x1 := f80 _
        refine g_istore3 X dX7_workerIs_50 (by decide) (by first | exact Or.inl rfl | exact Or.inr ⟨_, rfl, rfl⟩) ?_
        refine g_iload3 X dX7_workerIs_51 ?_
        refine g_if_ge (tgt := 60) X (by first | exact hR47 _ _ | exact hR11 _ _ | exact hR2 _ _ | exact hR0 _ _ | assumption | (unfold InR; omega)) dX7_workerIs_52 (by decide) (fun h52 => ?_) (fun h52 => ?_)
        · skip
          refine g_iload2 X dX7_workerIs_60 ?_
          refine g_if_ne (tgt := 72) X (by first | exact hR47 _ _ | exact hR11 _ _ | exact hR2 _ _ | exact hR0 _ _ | assumption | (unfold InR; omega)) dX7_workerIs_61 (by decide) (fun h61 => ?_) (fun h61 => ?_)
          · skip
            refine g_iload2 X dX7_workerIs_72 ?_
            refine g_iconst X dX7_workerIs_73 ?_
            refine g_icmp_ne (tgt := 85) X (by first | exact hR47 _ _ | exact hR11 _ _ | exact hR2 _ _ | exact hR0 _ _ | assumption | (unfold InR; omega)) (by first | exact hR47 _ _ | exact hR11 _ _ | exact hR2 _ _ | exact hR0 _ _ | assumption | (unfold InR; omega)) dX7_workerIs_74 (by decide) (fun h74 => ?_) (fun h74 => ?_)
            · skip
              refine g_aload0 X dX7_workerIs_85 ?_
              refine g_iload1 X dX7_workerIs_86 ?_
              refine g_F1 X (k_X7_worth E hM5 hP5 (by omega)) gX7_workerIs_X7_worth rfl (by decide +kernel) (by decide) ob_79 (Nat.le_of_ble_eq_true rfl) dX7_workerIs_87 (fun hz87 => ?_)
              refine g_rg (fun hR87 => ?_)
              refine g_aload0 X dX7_workerIs_90 ?_
              refine gf_7_s X i7 (by decide +kernel) dX7_workerIs_91 ?_
              refine g_iconst X dX7_workerIs_94 ?_
              refine g_iload1 X dX7_workerIs_95 ?_
              refine g_iadd X dX7_workerIs_96 ?_
              refine g_iald X (ia_80 (by omega)) dX7_workerIs_97 ?_
              refine g_icmp_ne (tgt := 105) X (by first | exact hR87 _ _ | exact hR47 _ _ | exact hR11 _ _ | exact hR2 _ _ | exact hR0 _ _ | assumption | (unfold InR; omega)) (by first | exact hR87 _ _ | exact hR47 _ _ | exact hR11 _ _ | exact hR2 _ _ | exact hR0 _ _ | assumption | (unfold InR; omega)) dX7_workerIs_98 (by decide) (fun h98 => ?_) (fun h98 => ?_)
              · skip
                refine g_iconst X dX7_workerIs_105 ?_
                exact g_iret X hr (by first | exact hR87 _ _ | exact hR47 _ _ | exact hR11 _ _ | exact hR2 _ _ | exact hR0 _ _ | assumption | (unfold InR; omega)) (by first | exact ⟨by rw [if_neg (by omega)], QM.rf⟩ | exact ⟨by rw [if_pos (by omega), if_pos (by omega), hz25, hz41]; rfl, hF8.qm.tr hp41.2.qm⟩ | exact ⟨by rw [if_pos (by omega), if_neg (by omega), if_pos (by omega)], hF.qm⟩ | exact ⟨by rw [if_pos (by omega), if_neg (by omega), if_neg (by omega), if_pos (by omega), ewt], hF.qm⟩ | exact ⟨by rw [if_pos (by omega), if_neg (by omega), if_neg (by omega), if_neg (by omega), if_pos (by omega), eti], hF.qm⟩ | exact ⟨by rw [if_pos (by omega), if_neg (by omega), if_neg (by omega), if_neg (by omega), if_neg (by omega)]; first | (rw [if_pos (by omega)]; done) | (rw [if_neg (by omega)]; done), hF.qm⟩) dX7_workerIs_106
              · skip
                refine g_iconst X dX7_workerIs_101 ?_
                refine g_goto (tgt := 106) X dX7_workerIs_102 (by decide) ?_
                exact g_iret X hr (by first | exact hR87 _ _ | exact hR47 _ _ | exact hR11 _ _ | exact hR2 _ _ | exact hR0 _ _ | assumption | (unfold InR; omega)) (by first | exact ⟨by rw [if_neg (by omega)], QM.rf⟩ | exact ⟨by rw [if_pos (by omega), if_pos (by omega), hz25, hz41]; rfl, hF8.qm.tr hp41.2.qm⟩ | exact ⟨by rw [if_pos (by omega), if_neg (by omega), if_pos (by omega)], hF.qm⟩ | exact ⟨by rw [if_pos (by omega), if_neg (by omega), if_neg (by omega), if_pos (by omega), ewt], hF.qm⟩ | exact ⟨by rw [if_pos (by omega), if_neg (by omega), if_neg (by omega), if_neg (by omega), if_pos (by omega), eti], hF.qm⟩ | exact ⟨by rw [if_pos (by omega), if_neg (by omega), if_neg (by omega), if_neg (by omega), if_neg (by omega)]; first | (rw [if_pos (by omega)]; done) | (rw [if_neg (by omega)]; done), hF.qm⟩) dX7_workerIs_106
            · skip
              refine g_aload0 X dX7_workerIs_77 ?_
              refine g_iload1 X dX7_workerIs_78 ?_
              refine g_F1 X (k_X7_tight E hM5 hP5 (by omega)) gX7_workerIs_X7_tight rfl (by decide +kernel) (by decide) ob_79 (Nat.le_of_ble_eq_true rfl) dX7_workerIs_79 (fun hz79 => ?_)
              refine g_rg (fun hR79 => ?_)
              refine g_goto (tgt := 106) X dX7_workerIs_82 (by decide) ?_
              exact g_iret X hr (by first | exact hR79 _ _ | exact hR47 _ _ | exact hR11 _ _ | exact hR2 _ _ | exact hR0 _ _ | assumption | (unfold InR; omega)) (by first | exact ⟨by rw [if_neg (by omega)], QM.rf⟩ | exact ⟨by rw [if_pos (by omega), if_pos (by omega), hz25, hz41]; rfl, hF8.qm.tr hp41.2.qm⟩ | exact ⟨by rw [if_pos (by omega), if_neg (by omega), if_pos (by omega)], hF.qm⟩ | exact ⟨by rw [if_pos (by omega), if_neg (by omega), if_neg (by omega), if_pos (by omega), ewt], hF.qm⟩ | exact ⟨by rw [if_pos (by omega), if_neg (by omega), if_neg (by omega), if_neg (by omega), if_pos (by omega), eti], hF.qm⟩ | exact ⟨by rw [if_pos (by omega), if_neg (by omega), if_neg (by omega), if_neg (by omega), if_neg (by omega)]; first | (rw [if_pos (by omega)]; done) | (rw [if_neg (by omega)]; done), hF.qm⟩) dX7_workerIs_106
          · skip
            refine g_aload0 X dX7_workerIs_64 ?_
            refine g_iload1 X dX7_workerIs_65 ?_
            refine g_F1 X (k_X7_worth E hM5 hP5 (by omega)) gX7_workerIs_X7_worth rfl (by decide +kernel) (by decide) ob_79 (Nat.le_of_ble_eq_true rfl) dX7_workerIs_66 (fun hz66 => ?_)
            refine g_rg (fun hR66 => ?_)
            refine g_goto (tgt := 106) X dX7_workerIs_69 (by decide) ?_
            exact g_iret X hr (by first | exact hR66 _ _ | exact hR47 _ _ | exact hR11 _ _ | exact hR2 _ _ | exact hR0 _ _ | assumption | (unfold InR; omega)) (by first | exact ⟨by rw [if_neg (by omega)], QM.rf⟩ | exact ⟨by rw [if_pos (by omega), if_pos (by omega), hz25, hz41]; rfl, hF8.qm.tr hp41.2.qm⟩ | exact ⟨by rw [if_pos (by omega), if_neg (by omega), if_pos (by omega)], hF.qm⟩ | exact ⟨by rw [if_pos (by omega), if_neg (by omega), if_neg (by omega), if_pos (by omega), ewt], hF.qm⟩ | exact ⟨by rw [if_pos (by omega), if_neg (by omega), if_neg (by omega), if_neg (by omega), if_pos (by omega), eti], hF.qm⟩ | exact ⟨by rw [if_pos (by omega), if_neg (by omega), if_neg (by omega), if_neg (by omega), if_neg (by omega)]; first | (rw [if_pos (by omega)]; done) | (rw [if_neg (by omega)]; done), hF.qm⟩) dX7_workerIs_106
        · skip
          refine g_bipush X dX7_workerIs_55 (by decide +kernel) ?_
          refine g_goto (tgt := 106) X dX7_workerIs_57 (by decide) ?_
          exact g_iret X hr (by first | exact hR47 _ _ | exact hR11 _ _ | exact hR2 _ _ | exact hR0 _ _ | assumption | (unfold InR; omega)) (by first | exact ⟨by rw [if_neg (by omega)], QM.rf⟩ | exact ⟨by rw [if_pos (by omega), if_pos (by omega), hz25, hz41]; rfl, hF8.qm.tr hp41.2.qm⟩ | exact ⟨by rw [if_pos (by omega), if_neg (by omega), if_pos (by omega)], hF.qm⟩ | exact ⟨by rw [if_pos (by omega), if_neg (by omega), if_neg (by omega), if_pos (by omega), ewt], hF.qm⟩ | exact ⟨by rw [if_pos (by omega), if_neg (by omega), if_neg (by omega), if_neg (by omega), if_pos (by omega), eti], hF.qm⟩ | exact ⟨by rw [if_pos (by omega), if_neg (by omega), if_neg (by omega), if_neg (by omega), if_neg (by omega)]; first | (rw [if_pos (by omega)]; done) | (rw [if_neg (by omega)]; done), hF.qm⟩) dX7_workerIs_106
      · skip
        refine g_aload0 X dX7_workerIs_24 ?_
        refine g_I0 X (k_X7_leastTotal E hM) gX7_workerIs_X7_leastTotal rfl (by decide +kernel) (by decide) ob_79 (Nat.le_of_ble_eq_true rfl) dX7_workerIs_25 (fun z25 σ25 hz25 hp25 => ?_)
        refine g_rg (fun hR25 => ?_)
        have hz25 := hp25.1
        have hF8 := hp25.2
        have hM8 := hF8.mt hM
        have g0 : σ25 80 0 = σ 80 0 := hF8 _ _ (by omega)
        have g1 : σ25 80 1 = σ 80 1 := hF8 _ _ (by omega)
        have hlt := p2_lt (k := x1) (n := σ 80 0) (by omega) (by omega) (by omega)
        have hpt := p2_k (k := x1) (by omega)
        refine g_aload0 X dX7_workerIs_28 ?_
        refine g_aload0 X dX7_workerIs_29 ?_
        refine g_F0 X (k_X7_allWorkers E hM8) gX7_workerIs_X7_allWorkers rfl (by decide +kernel) (by decide) ob_79 (Nat.le_of_ble_eq_true rfl) dX7_workerIs_30 (fun hz30 => ?_)
        refine g_rg (fun hR30 => ?_)
        rw [g0]
        refine g_iconst X dX7_workerIs_33 ?_
        refine g_iload1 X dX7_workerIs_34 ?_
        refine g_ishl X (b_shl (by omega)) dX7_workerIs_35 ?_
        refine g_isub X dX7_workerIs_36 ?_
        refine g_aload0 X dX7_workerIs_37 ?_
        refine g_F0 X (k_X7_allTasks E hM8) gX7_workerIs_X7_allTasks rfl (by decide +kernel) (by decide) ob_79 (Nat.le_of_ble_eq_true rfl) dX7_workerIs_38 (fun hz38 => ?_)
        refine g_rg (fun hR38 => ?_)
        rw [g1]
        refine g_I2 X (k_X7_leastFor E hM8 (by omega) (by omega) (fun h => by omega)) gX7_workerIs_X7_leastFor rfl (by decide +kernel) (by decide) ob_79 (Nat.le_of_ble_eq_true rfl) dX7_workerIs_41 (fun z41 σ41 hz41 hp41 => ?_)
        refine g_rg (fun hR41 => ?_)
        have hz41 := hp41.1
        rw [lfV_F hF8] at hz41
        have hlb := lfV_b hM (p2 (σ 80 0) - 1 - p2 x1) (p2 (σ 80 1) - 1)
        refine g_isub X dX7_workerIs_44 ?_
        exact g_iret X hr (by first | exact hR41 _ _ | exact hR38 _ _ | exact hR30 _ _ | exact hR25 _ _ | exact hR11 _ _ | exact hR2 _ _ | exact hR0 _ _ | assumption | (unfold InR; omega)) (by first | exact ⟨by rw [if_neg (by omega)], QM.rf⟩ | exact ⟨by rw [if_pos (by omega), if_pos (by omega), hz25, hz41]; rfl, hF8.qm.tr hp41.2.qm⟩ | exact ⟨by rw [if_pos (by omega), if_neg (by omega), if_pos (by omega)], hF.qm⟩ | exact ⟨by rw [if_pos (by omega), if_neg (by omega), if_neg (by omega), if_pos (by omega), ewt], hF.qm⟩ | exact ⟨by rw [if_pos (by omega), if_neg (by omega), if_neg (by omega), if_neg (by omega), if_pos (by omega), eti], hF.qm⟩ | exact ⟨by rw [if_pos (by omega), if_neg (by omega), if_neg (by omega), if_neg (by omega), if_neg (by omega)]; first | (rw [if_pos (by omega)]; done) | (rw [if_neg (by omega)]; done), hF.qm⟩) dX7_workerIs_45
    · skip
      refine g_iconst X dX7_workerIs_17 ?_
      exact g_iret X hr (by first | exact hR11 _ _ | exact hR2 _ _ | exact hR0 _ _ | assumption | (unfold InR; omega)) (by first | exact ⟨by rw [if_neg (by omega)], QM.rf⟩ | exact ⟨by rw [if_pos (by omega), if_pos (by omega), hz25, hz41]; rfl, hF8.qm.tr hp41.2.qm⟩ | exact ⟨by rw [if_pos (by omega), if_neg (by omega), if_pos (by omega)], hF.qm⟩ | exact ⟨by rw [if_pos (by omega), if_neg (by omega), if_neg (by omega), if_pos (by omega), ewt], hF.qm⟩ | exact ⟨by rw [if_pos (by omega), if_neg (by omega), if_neg (by omega), if_neg (by omega), if_pos (by omega), eti], hF.qm⟩ | exact ⟨by rw [if_pos (by omega), if_neg (by omega), if_neg (by omega), if_neg (by omega), if_neg (by omega)]; first | (rw [if_pos (by omega)]; done) | (rw [if_neg (by omega)]; done), hF.qm⟩) dX7_workerIs_18

theorem sPM_b {σ : St} (hM : MT (σ 80)) : -7000000 ≤ sPM σ ∧ sPM σ ≤ 7000000 := by
  have hn := hM.2.1
  have h := FI_add_b (f := fun t => lpV σ t) (lo := -1000000) (hi := 1000000) (σ 80 1).toNat (fun j a b => lpV_b hM j)
  rw [Int.toNat_of_nonneg hn.1] at h
  unfold sPM sPs
  omega
set_option maxHeartbeats 4000000 in
set_option maxRecDepth 100000 in
theorem k_X7_proof (E0 : EV) {ad : Int → Nat} {σ : St} (hM : MT (σ 80)) (hN : N4 σ) : MGE E0 yX7_proof wsX7_proof 6 136 ad σ [.ref (ad 79)] (PI (fun z σ' => z = prS σ (σ 80 0) ∧ QM σ σ')) := by
  refine MGE.of (cc := cX7_proof) (maxL := 3) (ret := (some .int)) (own := RX7) [some (.ref (ad 79)), none, none] (by decide +kernel) rfl rfl (Nat.le_of_ble_eq_true rfl) rfl rfl (fun E X hr => ?_)
  have i7 : ∀ w ∈ wsX70, w ∈ wsX7_proof := by decide +kernel
  refine g_rg (fun hR0 => ?_)
  have hm := hM.1
  have hn := hM.2.1
  refine g_aload0 X dX7_proof_0 ?_
  refine g_I0 X (k_X7_pricesAll E hM hN) gX7_proof_X7_pricesAll rfl (by decide +kernel) (by decide) ob_79 (Nat.le_of_ble_eq_true rfl) dX7_proof_1 (fun z1 σ1 hz1 hp1 => ?_)
  refine g_rg (fun hR1 => ?_)
  have hPN := hp1.2
  have hF := hPN.1
  have hM5 := hF.mt hM
  have hP5 := hPN.p5 hM
  have f80 : ∀ k, σ1 80 k = σ 80 k := fun k => hF _ _ (by omega) (by omega)
  have f0 := f80 0
  have f1 := f80 1
  have hz1 := hp1.1
  have hsb := sPM_b hM
  refine g_ineg X dX7_proof_4 ?_
  refine g_istore1 X dX7_proof_5 (by decide) (by first | exact Or.inl rfl | exact Or.inr ⟨_, rfl, rfl⟩) ?_
  refine g_iconst X dX7_proof_6 ?_
  refine g_istore2 X dX7_proof_7 (by decide) (by first | exact Or.inl rfl | exact Or.inr ⟨_, rfl, rfl⟩) ?_
  have L8 : ∀ (n8 : Nat) (w a : Int), (7 - w).toNat < n8 → (0 ≤ w ∧ w ≤ σ 80 0) → (-7000000 - 1000001 * w ≤ a ∧ a ≤ 7000000 + 10000 * w) → (a = prS σ w) → WG E ad 3 σ1 8 [some (.ref (ad 79)), some (.int (iI a)), some (.int (iI w))] [] := by
    intro n8
    induction n8 with
    | zero => intro w a hn; exact absurd hn (Nat.not_lt_zero _)
    | succ n8 ih8 =>
      intro w a hn8 hw hab ha
      refine g_rg (fun hRL8 => ?_)
      refine g_iload2 X dX7_proof_8 ?_
      refine g_aload0 X dX7_proof_9 ?_
      refine gf_7_s X i7 (by decide +kernel) dX7_proof_10 ?_
      refine g_iconst X dX7_proof_13 ?_
      refine g_iald X (ia_80 (by omega)) dX7_proof_14 ?_
      refine g_icmp_ge (tgt := 32) X (by first | exact hRL8 _ _ | exact hR1 _ _ | exact hR0 _ _ | assumption | (unfold InR; omega)) (by first | exact hRL8 _ _ | exact hR1 _ _ | exact hR0 _ _ | assumption | (unfold InR; omega)) dX7_proof_15 (by decide) (fun h15 => ?_) (fun h15 => ?_)
      · skip
        refine g_iload1 X dX7_proof_32 ?_
        exact g_iret X hr (by first | exact hRL8 _ _ | exact hR1 _ _ | exact hR0 _ _ | assumption | (unfold InR; omega)) ⟨by rw [ha, show w = σ 80 0 by omega], hF.qm⟩ dX7_proof_33
      · skip
        refine g_iload1 X dX7_proof_18 ?_
        refine g_aload0 X dX7_proof_19 ?_
        refine g_iload2 X dX7_proof_20 ?_
        refine g_F1 X (k_X7_worth E hM5 hP5 (by omega)) gX7_proof_X7_worth rfl (by decide +kernel) (by decide) ob_79 (Nat.le_of_ble_eq_true rfl) dX7_proof_21 (fun hz21 => ?_)
        refine g_rg (fun hR21 => ?_)
        have ewt := hPN.wt hM w
        have hwb := wtR_b hM5 hP5 (w := w) (by omega)
        refine g_iadd X dX7_proof_24 ?_
        refine g_istore1 X dX7_proof_25 (by decide) (by first | exact Or.inl rfl | exact Or.inr ⟨_, rfl, rfl⟩) ?_
        refine g_iinc2 X dX7_proof_26 (by decide) (by first | exact Or.inl rfl | exact Or.inr ⟨_, rfl, rfl⟩) ?_
        refine g_goto (tgt := 8) X dX7_proof_29 (by decide) ?_
        refine ih8 _ _ (by omega) ?_ ?_ ?_
        · omega
        · omega
        · rw [prS_s hw.1, ← ha, ewt]
  refine L8 _ _ _ (Nat.lt_succ_self _) ?_ ?_ ?_
  · omega
  · omega
  · rw [hz1]; rfl

set_option maxHeartbeats 4000000 in
set_option maxRecDepth 100000 in
theorem k_X7_with (E0 : EV) {ad : Int → Nat} {σ : St} {w t : Int} (hM : MT (σ 80)) (hw : 0 ≤ w ∧ w < σ 80 0) (ht : -1 ≤ t ∧ t < σ 80 1) : MGE E0 yX7_with wsX7_with 3 72 ad σ [.ref (ad 79), .int (iI w), .int (iI t)] (PI (fun z σ' => z = wiV σ w t ∧ F83 σ σ')) := by
  refine MGE.of (cc := cX7_with) (maxL := 4) (ret := (some .int)) (own := RX7) [some (.ref (ad 79)), some (.int (iI w)), some (.int (iI t)), none] (by decide +kernel) rfl rfl (Nat.le_of_ble_eq_true rfl) rfl rfl (fun E X hr => ?_)
  have i7 : ∀ w ∈ wsX70, w ∈ wsX7_with := by decide +kernel
  refine g_rg (fun hR0 => ?_)
  have hm := hM.1
  have hn := hM.2.1
  have hpm := p2_n (n := σ 80 0) (by omega)
  have hpn := p2_n (n := σ 80 1) (by omega)
  have hb7 := bt_all (n := σ 80 1) (j := 7) (by omega) (by omega)
  rw [if_neg (by omega)] at hb7
  have hlt := p2_lt (k := w) (n := σ 80 0) (by omega) (by omega) (by omega)
  have hpt := p2_k (k := w) (by omega)
  refine g_aload0 X dX7_with_0 ?_
  refine g_F0 X (k_X7_allWorkers E hM) gX7_with_X7_allWorkers rfl (by decide +kernel) (by decide) ob_79 (Nat.le_of_ble_eq_true rfl) dX7_with_1 (fun hz1 => ?_)
  refine g_rg (fun hR1 => ?_)
  refine g_iconst X dX7_with_4 ?_
  refine g_iload1 X dX7_with_5 ?_
  refine g_ishl X (b_shl (by omega)) dX7_with_6 ?_
  refine g_isub X dX7_with_7 ?_
  refine g_istore3 X dX7_with_8 (by decide) (by first | exact Or.inl rfl | exact Or.inr ⟨_, rfl, rfl⟩) ?_
  refine g_iload2 X dX7_with_9 ?_
  refine g_if_ge (tgt := 34) X (by first | exact hR1 _ _ | exact hR0 _ _ | assumption | (unfold InR; omega)) dX7_with_10 (by decide) (fun h10 => ?_) (fun h10 => ?_)
  · skip
    have hcb := hM.2.2.2 w t (by omega) (by omega) (by omega) (by omega)
    have hcm : cM σ w t = σ 80 (9 + 7 * w + t) := rfl
    have hlt2 := p2_lt (k := t) (n := σ 80 1) (by omega) (by omega) (by omega)
    have hpt2 := p2_k (k := t) (by omega)
    have hb8 := bt_128 (m := p2 (σ 80 1) - 1 - p2 t) (by omega)
    refine g_aload0 X dX7_with_34 ?_
    refine g_iload1 X dX7_with_35 ?_
    refine g_iload2 X dX7_with_36 ?_
    refine g_F2 X (k_X7_of E (by omega) (by omega)) gX7_with_X7_of rfl (by decide +kernel) (by decide) ob_79 (Nat.le_of_ble_eq_true rfl) dX7_with_37 (fun hz37 => ?_)
    refine g_rg (fun hR37 => ?_)
    refine g_aload0 X dX7_with_40 ?_
    refine g_iload3 X dX7_with_41 ?_
    refine g_aload0 X dX7_with_42 ?_
    refine g_F0 X (k_X7_allTasks E hM) gX7_with_X7_allTasks rfl (by decide +kernel) (by decide) ob_79 (Nat.le_of_ble_eq_true rfl) dX7_with_43 (fun hz43 => ?_)
    refine g_rg (fun hR43 => ?_)
    refine g_iconst X dX7_with_46 ?_
    refine g_iload2 X dX7_with_47 ?_
    refine g_ishl X (b_shl (by omega)) dX7_with_48 ?_
    refine g_isub X dX7_with_49 ?_
    refine g_I2 X (k_X7_leastFor E hM (by omega) (by omega) (fun h => by omega)) gX7_with_X7_leastFor rfl (by decide +kernel) (by decide) ob_79 (Nat.le_of_ble_eq_true rfl) dX7_with_50 (fun z50 σ50 hz50 hp50 => ?_)
    refine g_rg (fun hR50 => ?_)
    have hlb := lfV_b hM (p2 (σ 80 0) - 1 - p2 w) (p2 (σ 80 1) - 1 - p2 t)
    have hz50 := hp50.1
    refine g_iadd X dX7_with_53 ?_
    exact g_iret X hr (by first | exact hR50 _ _ | exact hR43 _ _ | exact hR37 _ _ | exact hR1 _ _ | exact hR0 _ _ | assumption | (unfold InR; omega)) (by first | exact ⟨by unfold wiV; rw [if_pos (by omega), hz27]; rfl, hp27.2⟩ | exact ⟨by unfold wiV; rw [if_neg (by omega), hz50]; rfl, hp50.2⟩) dX7_with_54
  · skip
    have hd := hM.2.2.1 w (by omega) (by omega)
    refine g_aload0 X dX7_with_13 ?_
    refine gf_7_s X i7 (by decide +kernel) dX7_with_14 ?_
    refine g_iconst X dX7_with_17 ?_
    refine g_iload1 X dX7_with_18 ?_
    refine g_iadd X dX7_with_19 ?_
    refine g_iald X (ia_80 (by omega)) dX7_with_20 ?_
    refine g_aload0 X dX7_with_21 ?_
    refine g_iload3 X dX7_with_22 ?_
    refine g_aload0 X dX7_with_23 ?_
    refine g_F0 X (k_X7_allTasks E hM) gX7_with_X7_allTasks rfl (by decide +kernel) (by decide) ob_79 (Nat.le_of_ble_eq_true rfl) dX7_with_24 (fun hz24 => ?_)
    refine g_rg (fun hR24 => ?_)
    refine g_I2 X (k_X7_leastFor E hM (by omega) (by omega) (fun h => by omega)) gX7_with_X7_leastFor rfl (by decide +kernel) (by decide) ob_79 (Nat.le_of_ble_eq_true rfl) dX7_with_27 (fun z27 σ27 hz27 hp27 => ?_)
    refine g_rg (fun hR27 => ?_)
    have hlb := lfV_b hM (p2 (σ 80 0) - 1 - p2 w) (p2 (σ 80 1) - 1)
    have hz27 := hp27.1
    refine g_iadd X dX7_with_30 ?_
    refine g_goto (tgt := 54) X dX7_with_31 (by decide) ?_
    exact g_iret X hr (by first | exact hR27 _ _ | exact hR24 _ _ | exact hR1 _ _ | exact hR0 _ _ | assumption | (unfold InR; omega)) (by first | exact ⟨by unfold wiV; rw [if_pos (by omega), hz27]; rfl, hp27.2⟩ | exact ⟨by unfold wiV; rw [if_neg (by omega), hz50]; rfl, hp50.2⟩) dX7_with_54

set_option maxHeartbeats 4000000 in
set_option maxRecDepth 100000 in
theorem k_X7_busy (E0 : EV) {ad : Int → Nat} {σ : St} {x1 : Int} (hM : MT (σ 80)) (hw : 0 ≤ x1 ∧ x1 < σ 80 0) : MGE E0 yX7_busy wsX7_busy 4 95 ad σ [.ref (ad 79), .int (iI x1)] (PI (fun z σ' => z = buV σ x1 ∧ F83 σ σ')) := by
  refine MGE.of (cc := cX7_busy) (maxL := 5) (ret := (some .int)) (own := RX7) [some (.ref (ad 79)), some (.int (iI x1)), none, none, none] (by decide +kernel) rfl rfl (Nat.le_of_ble_eq_true rfl) rfl rfl (fun E X hr => ?_)
  have i7 : ∀ w ∈ wsX70, w ∈ wsX7_busy := by decide +kernel
  refine g_rg (fun hR0 => ?_)
  have hm := hM.1
  have hn := hM.2.1
  refine g_ldc X (z := 1000000) (by decide +kernel) rfl dX7_busy_0 ?_
  refine g_istore2 X dX7_busy_2 (by decide) (by first | exact Or.inl rfl | exact Or.inr ⟨_, rfl, rfl⟩) ?_
  refine g_iconst X dX7_busy_3 ?_
  refine g_istore3 X dX7_busy_4 (by decide) (by first | exact Or.inl rfl | exact Or.inr ⟨_, rfl, rfl⟩) ?_
  have L5 : ∀ (n5 : Nat) (t a : Int) (σ1 : St) (u : Option Value), (7 - t).toNat < n5 → (0 ≤ t ∧ t ≤ σ 80 1) → (-1 ≤ a ∧ a ≤ 1000000) → (a = buS σ x1 t) → (F83 σ σ1) → WG E ad 5 σ1 5 [some (.ref (ad 79)), some (.int (iI x1)), some (.int (iI a)), some (.int (iI t)), u] [] := by
    intro n5
    induction n5 with
    | zero => intro t a σ1 u hn; exact absurd hn (Nat.not_lt_zero _)
    | succ n5 ih5 =>
      intro t a σ1 u hn5 ht hab ha hF
      refine g_rg (fun hRL5 => ?_)
      have g0 : σ1 80 0 = σ 80 0 := hF _ _ (by omega)
      have g1 : σ1 80 1 = σ 80 1 := hF _ _ (by omega)
      refine g_iload3 X dX7_busy_5 ?_
      refine g_aload0 X dX7_busy_6 ?_
      refine gf_7_s X i7 (by decide +kernel) dX7_busy_7 ?_
      refine g_iconst X dX7_busy_10 ?_
      refine g_iald X (ia_80 (by omega)) dX7_busy_11 ?_
      refine g_icmp_ge (tgt := 56) X (by first | exact hRL5 _ _ | exact hR0 _ _ | assumption | (unfold InR; omega)) (by first | exact hRL5 _ _ | exact hR0 _ _ | assumption | (unfold InR; omega)) dX7_busy_12 (by decide) (fun h12 => ?_) (fun h12 => ?_)
      · skip
        refine g_iload2 X dX7_busy_56 ?_
        exact g_iret X hr (by first | exact hRL5 _ _ | exact hR0 _ _ | assumption | (unfold InR; omega)) ⟨by rw [ha, show t = σ 80 1 by omega]; rfl, hF⟩ dX7_busy_57
      · skip
        refine g_aload0 X dX7_busy_15 ?_
        refine g_iload1 X dX7_busy_16 ?_
        refine g_iload3 X dX7_busy_17 ?_
        refine g_F2 X (k_X7_of E (by omega) (by omega)) gX7_busy_X7_of rfl (by decide +kernel) (by decide) ob_79 (Nat.le_of_ble_eq_true rfl) dX7_busy_18 (fun hz18 => ?_)
        refine g_rg (fun hR18 => ?_)
        have hcm : cM σ1 x1 t = cM σ x1 t := hF _ _ (by omega)
        have hcr : cM σ x1 t = σ 80 (9 + 7 * x1 + t) := rfl
        have hcb := hM.2.2.2 x1 t (by omega) (by omega) (by omega) (by omega)
        have hwb := wiV_b hM (w := x1) (t := t) (by omega) (by omega)
        have J35 : ∀ (v : Int) (σ2 : St), F83 σ σ2 → v = (if cM σ x1 t < 0 then 1000000 else wiV σ x1 t) → WG E ad 5 σ2 35 [some (.ref (ad 79)), some (.int (iI x1)), some (.int (iI a)), some (.int (iI t)), u] [.int (iI v)] := by
          intro v σ2 hF2 hv
          have hvb : -1 ≤ v ∧ v ≤ 1009999 := by
            rw [hv]; by_cases h : cM σ x1 t < 0
            · rw [if_pos h]; omega
            · rw [if_neg h]; omega
          refine g_istore4 X dX7_busy_35 (by decide) (by first | exact Or.inl rfl | exact Or.inr ⟨_, rfl, rfl⟩) ?_
          refine g_iload4 X dX7_busy_37 ?_
          refine g_iload2 X dX7_busy_39 ?_
          refine g_icmp_ge (tgt := 48) X (by first | exact hR18 _ _ | exact hRL5 _ _ | exact hR0 _ _ | assumption | (unfold InR; omega)) (by first | exact hR18 _ _ | exact hRL5 _ _ | exact hR0 _ _ | assumption | (unfold InR; omega)) dX7_busy_40 (by decide) (fun h40 => ?_) (fun h40 => ?_)
          · skip
            refine g_iload2 X dX7_busy_48 ?_
            refine g_istore2 X dX7_busy_49 (by decide) (by first | exact Or.inl rfl | exact Or.inr ⟨_, rfl, rfl⟩) ?_
            refine g_iinc3 X dX7_busy_50 (by decide) (by first | exact Or.inl rfl | exact Or.inr ⟨_, rfl, rfl⟩) ?_
            refine g_goto (tgt := 5) X dX7_busy_53 (by decide) ?_
            refine ih5 _ _ _ _ (by omega) ?_ ?_ ?_ ?_
            · omega
            · omega
            · rw [buS_s ht.1, ← ha, ← hv]; omega
            · exact hF2
          · skip
            refine g_iload4 X dX7_busy_43 ?_
            refine g_goto (tgt := 49) X dX7_busy_45 (by decide) ?_
            refine g_istore2 X dX7_busy_49 (by decide) (by first | exact Or.inl rfl | exact Or.inr ⟨_, rfl, rfl⟩) ?_
            refine g_iinc3 X dX7_busy_50 (by decide) (by first | exact Or.inl rfl | exact Or.inr ⟨_, rfl, rfl⟩) ?_
            refine g_goto (tgt := 5) X dX7_busy_53 (by decide) ?_
            refine ih5 _ _ _ _ (by omega) ?_ ?_ ?_ ?_
            · omega
            · omega
            · rw [buS_s ht.1, ← ha, ← hv]; omega
            · exact hF2
        refine g_if_ge (tgt := 29) X (by first | exact hR18 _ _ | exact hRL5 _ _ | exact hR0 _ _ | assumption | (unfold InR; omega)) dX7_busy_21 (by decide) (fun h21 => ?_) (fun h21 => ?_)
        · skip
          refine g_aload0 X dX7_busy_29 ?_
          refine g_iload1 X dX7_busy_30 ?_
          refine g_iload3 X dX7_busy_31 ?_
          refine g_I2 X (k_X7_with E (hF.mt hM) (by omega) (by omega)) gX7_busy_X7_with rfl (by decide +kernel) (by decide) ob_79 (Nat.le_of_ble_eq_true rfl) dX7_busy_32 (fun z32 σ32 hz32 hp32 => ?_)
          refine g_rg (fun hR32 => ?_)
          first | exact J35 _ _ hF (by rw [if_pos (by omega)]) | exact J35 _ _ (hF.tr hp32.2) (by rw [if_neg (by omega), hp32.1, wiV_F hF])
        · skip
          refine g_ldc X (z := 1000000) (by decide +kernel) rfl dX7_busy_24 ?_
          refine g_goto (tgt := 35) X dX7_busy_26 (by decide) ?_
          first | exact J35 _ _ hF (by rw [if_pos (by omega)]) | exact J35 _ _ (hF.tr hp32.2) (by rw [if_neg (by omega), hp32.1, wiV_F hF])
  refine L5 _ _ _ _ _ (Nat.lt_succ_self _) ?_ ?_ ?_ ?_
  · omega
  · omega
  · rfl
  · exact F83.rf
