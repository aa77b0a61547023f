/-! MY CONTRACTS: the class's face, its changes -/
theorem gC_b {σ : St} {t w : Int} (hT : TOK σ t) (hw : 0 ≤ w ∧ w < 7) : ∀ n : Nat, (n : Int) ≤ 7 → (σ (TI t) w ≤ gC σ t w n ∧ gC σ t w n ≤ 9999) ∧ ∀ j : Int, 0 ≤ j → j < n → σ (TR t w) j ≤ gC σ t w n := by
  intro n
  induction n with
  | zero => intro _; exact ⟨⟨Int.le_refl _, (hT.2.2.1 w hw.1 hw.2).2⟩, fun j h1 h2 => by omega⟩
  | succ n ih =>
    intro hn
    have ih' := ih (by omega)
    have e : ((n + 1 : Nat) : Int) = (n : Int) + 1 := by omega
    rw [e, gC_s (by omega)]
    have h1 := hT.2.2.2 w n hw.1 hw.2 (by omega) (by omega)
    refine ⟨by omega, fun j a b => ?_⟩
    by_cases hj : j = n
    · rw [hj]; omega
    · have := ih'.2 j a (by omega); omega
theorem gC_u {σ : St} {t w : Int} (hT : TOK σ t) (hw : 0 ≤ w ∧ w < 7) : (0 ≤ gC σ t w (σ (TB t) 1) ∧ gC σ t w (σ (TB t) 1) ≤ 9999) ∧ σ (TI t) w ≤ gC σ t w (σ (TB t) 1) ∧ ∀ j : Int, 0 ≤ j → j < σ (TB t) 1 → σ (TR t w) j ≤ gC σ t w (σ (TB t) 1) := by
  have hn := hT.2.1
  have h := gC_b hT hw (σ (TB t) 1).toNat (by omega)
  rw [Int.toNat_of_nonneg hn.1] at h
  have := hT.2.2.1 w hw.1 hw.2
  exact ⟨by omega, h.1.1, h.2⟩
theorem mul_b {a b f : Int} (h0 : 0 ≤ a) (h1 : a ≤ b) (hf : 0 ≤ f) (hb : b * f ≤ 9999) : 0 ≤ a * f ∧ a * f ≤ 9999 := ⟨Int.mul_nonneg h0 hf, Int.le_trans (Int.mul_le_mul_of_nonneg_right h1 hf) hb⟩
set_option maxHeartbeats 4000000 in
set_option maxRecDepth 100000 in
theorem k_X6_worker (E0 : EV) {ad : Int → Nat} {σ : St} {x1 : Int} (hC : CI σ)(hx1 : InR x1) : MGE E0 yX6_worker wsX6_worker 2 44 ad σ [.ref (ad 0), .int (iI x1)] (PF (if 0 ≤ x1 ∧ x1 ≤ 9999 then (if σ (TB 0) 0 < 7 then σ (TB 0) 0 else -3) else -1) (if (0 ≤ x1 ∧ x1 ≤ 9999) ∧ σ (TB 0) 0 < 7 then adW (kp σ) 0 x1 (kp σ (TB 0) 1) 1 else σ)) := by
  refine MGE.of (cc := cX6_worker) (maxL := 2) (ret := (some .int)) (own := RX6) [some (.ref (ad 0)), some (.int (iI x1))] (by decide +kernel) rfl rfl (Nat.le_of_ble_eq_true rfl) rfl rfl (fun E X hr => ?_)
  have i4 : ∀ w ∈ wsX40, w ∈ wsX6_worker := by decide +kernel
  have i6 : ∀ w ∈ wsX60, w ∈ wsX6_worker := by decide +kernel
  refine g_rg (fun hR0 => ?_)
  have hT0 := hC.1 0 (by omega) (by omega)
  have hT5 := hC.1 5 (by omega) (by omega)
  have hm := hT0.1
  have hn := hT0.2.1
  have hc := iC_01 x1
  refine g_iload1 X dX6_worker_0 ?_
  refine g_SF1 X (k_X6_isCost E hx1) gX6_worker_X6_isCost rfl (by decide +kernel) (by decide) (Nat.le_of_ble_eq_true rfl) dX6_worker_1 (fun hz1 => ?_)
  refine g_rg (fun hR1 => ?_)
  refine g_if_ne (tgt := 9) X (by first | exact hR1 _ _ | exact hR0 _ _ | assumption | (unfold InR; omega)) dX6_worker_4 (by decide) (fun h4 => ?_) (fun h4 => ?_)
  · skip
    refine g_aload0 X dX6_worker_9 ?_
    refine gf_6_table X i6 (by decide +kernel) dX6_worker_10 ?_
    refine gf_4_workers X (by omega) i4 (by decide +kernel) dX6_worker_13 ?_
    refine g_bipush X dX6_worker_16 (by decide +kernel) ?_
    refine g_icmp_lt (tgt := 24) X (by first | exact hR1 _ _ | exact hR0 _ _ | assumption | (unfold InR; omega)) (by first | exact hR1 _ _ | exact hR0 _ _ | assumption | (unfold InR; omega)) dX6_worker_18 (by decide) (fun h18 => ?_) (fun h18 => ?_)
    · skip
      have kT := kp_T0 hC.2.1
      have kT0 := kT.1
      have kT1 := kT.2.1
      refine g_aload0 X dX6_worker_24 ?_
      refine gf_6_history X i6 (by decide +kernel) dX6_worker_25 ?_
      refine g_aload0 X dX6_worker_28 ?_
      refine gf_6_table X i6 (by decide +kernel) dX6_worker_29 ?_
      refine g_W1 X (k_X0_keep E hC.2.1) gX6_worker_X0_keep rfl (by decide +kernel) (by decide) ob_1 (Nat.le_of_ble_eq_true rfl) dX6_worker_32 ?_
      refine g_rg (fun hR32 => ?_)
      refine g_aload0 X dX6_worker_35 ?_
      refine gf_6_table X i6 (by decide +kernel) dX6_worker_36 ?_
      refine g_iload1 X dX6_worker_39 ?_
      refine g_W1 X (k_X4_addWorker E (by omega) (by omega) (by omega) (by omega)) gX6_worker_X4_addWorker rfl (by decide +kernel) (by decide) (ob_TB (by omega)) (Nat.le_of_ble_eq_true rfl) dX6_worker_40 ?_
      refine g_rg (fun hR40 => ?_)
      have ez : adW (kp σ) 0 x1 (kp σ (TB 0) 1) 1 (TB 0) 0 = σ (TB 0) 0 + 1 := by unfold adW; rw [if_pos ⟨rfl, rfl⟩, kT0]
      refine g_aload0 X dX6_worker_43 ?_
      refine gf_6_table X i6 (by decide +kernel) dX6_worker_44 ?_
      refine gf_4_workers X (by omega) i4 (by decide +kernel) dX6_worker_47 ?_
      refine g_iconst X dX6_worker_50 ?_
      refine g_isub X dX6_worker_51 ?_
      exact g_iretF X hr (by first | exact hR40 _ _ | exact hR32 _ _ | exact hR1 _ _ | exact hR0 _ _ | assumption | (unfold InR; omega)) ⟨(by repeat (first | rw [if_pos (by omega)] | rw [if_neg (by omega)]); all_goals omega), (by repeat (first | rw [if_pos (by omega)] | rw [if_neg (by omega)]); all_goals omega)⟩ dX6_worker_52
    · skip
      refine g_bipush X dX6_worker_21 (by decide +kernel) ?_
      exact g_iretF X hr (by first | exact hR1 _ _ | exact hR0 _ _ | assumption | (unfold InR; omega)) ⟨(by repeat (first | rw [if_pos (by omega)] | rw [if_neg (by omega)]); all_goals omega), (by repeat (first | rw [if_pos (by omega)] | rw [if_neg (by omega)]); all_goals omega)⟩ dX6_worker_23
  · skip
    refine g_iconst X dX6_worker_7 ?_
    exact g_iretF X hr (by first | exact hR1 _ _ | exact hR0 _ _ | assumption | (unfold InR; omega)) ⟨(by repeat (first | rw [if_pos (by omega)] | rw [if_neg (by omega)]); all_goals omega), (by repeat (first | rw [if_pos (by omega)] | rw [if_neg (by omega)]); all_goals omega)⟩ dX6_worker_8

set_option maxHeartbeats 4000000 in
set_option maxRecDepth 100000 in
theorem k_X6_task (E0 : EV) {ad : Int → Nat} {σ : St} (hC : CI σ) : MGE E0 yX6_task wsX6_task 2 44 ad σ [.ref (ad 0)] (PF (if σ (TB 0) 1 < 7 then σ (TB 0) 1 else -3) (if σ (TB 0) 1 < 7 then adT (kp σ) 0 (kp σ (TB 0) 0) 1 else σ)) := by
  refine MGE.of (cc := cX6_task) (maxL := 1) (ret := (some .int)) (own := RX6) [some (.ref (ad 0))] (by decide +kernel) rfl rfl (Nat.le_of_ble_eq_true rfl) rfl rfl (fun E X hr => ?_)
  have i4 : ∀ w ∈ wsX40, w ∈ wsX6_task := by decide +kernel
  have i6 : ∀ w ∈ wsX60, w ∈ wsX6_task := by decide +kernel
  refine g_rg (fun hR0 => ?_)
  have hT0 := hC.1 0 (by omega) (by omega)
  have hT5 := hC.1 5 (by omega) (by omega)
  have hm := hT0.1
  have hn := hT0.2.1
  refine g_aload0 X dX6_task_0 ?_
  refine gf_6_table X i6 (by decide +kernel) dX6_task_1 ?_
  refine gf_4_tasks X (by omega) i4 (by decide +kernel) dX6_task_4 ?_
  refine g_bipush X dX6_task_7 (by decide +kernel) ?_
  refine g_icmp_lt (tgt := 15) X (by first | exact hR0 _ _ | assumption | (unfold InR; omega)) (by first | exact hR0 _ _ | assumption | (unfold InR; omega)) dX6_task_9 (by decide) (fun h9 => ?_) (fun h9 => ?_)
  · skip
    have kT := kp_T0 hC.2.1
    have kT0 := kT.1
    have kT1 := kT.2.1
    refine g_aload0 X dX6_task_15 ?_
    refine gf_6_history X i6 (by decide +kernel) dX6_task_16 ?_
    refine g_aload0 X dX6_task_19 ?_
    refine gf_6_table X i6 (by decide +kernel) dX6_task_20 ?_
    refine g_W1 X (k_X0_keep E hC.2.1) gX6_task_X0_keep rfl (by decide +kernel) (by decide) ob_1 (Nat.le_of_ble_eq_true rfl) dX6_task_23 ?_
    refine g_rg (fun hR23 => ?_)
    refine g_aload0 X dX6_task_26 ?_
    refine gf_6_table X i6 (by decide +kernel) dX6_task_27 ?_
    refine g_W0 X (k_X4_addTask E (by omega) (by omega) (by omega)) gX6_task_X4_addTask rfl (by decide +kernel) (by decide) (ob_TB (by omega)) (Nat.le_of_ble_eq_true rfl) dX6_task_30 ?_
    refine g_rg (fun hR30 => ?_)
    have ez : adT (kp σ) 0 (kp σ (TB 0) 0) 1 (TB 0) 1 = σ (TB 0) 1 + 1 := by unfold adT; rw [if_pos ⟨rfl, rfl⟩, kT1]
    refine g_aload0 X dX6_task_33 ?_
    refine gf_6_table X i6 (by decide +kernel) dX6_task_34 ?_
    refine gf_4_tasks X (by omega) i4 (by decide +kernel) dX6_task_37 ?_
    refine g_iconst X dX6_task_40 ?_
    refine g_isub X dX6_task_41 ?_
    exact g_iretF X hr (by first | exact hR30 _ _ | exact hR23 _ _ | exact hR0 _ _ | assumption | (unfold InR; omega)) ⟨(by repeat (first | rw [if_pos (by omega)] | rw [if_neg (by omega)]); all_goals omega), (by repeat (first | rw [if_pos (by omega)] | rw [if_neg (by omega)]); all_goals omega)⟩ dX6_task_42
  · skip
    refine g_bipush X dX6_task_12 (by decide +kernel) ?_
    exact g_iretF X hr (by first | exact hR0 _ _ | assumption | (unfold InR; omega)) ⟨(by repeat (first | rw [if_pos (by omega)] | rw [if_neg (by omega)]); all_goals omega), (by repeat (first | rw [if_pos (by omega)] | rw [if_neg (by omega)]); all_goals omega)⟩ dX6_task_14

set_option maxHeartbeats 4000000 in
set_option maxRecDepth 100000 in
theorem k_X6_dropWorker (E0 : EV) {ad : Int → Nat} {σ : St} {x1 : Int} (hC : CI σ)(hx1 : InR x1) : MGE E0 yX6_dropWorker wsX6_dropWorker 2 44 ad σ [.ref (ad 0), .int (iI x1)] (PF (if 0 ≤ x1 ∧ x1 < σ (TB 0) 0 then σ (TB 0) 0 - 1 else -1) (if 0 ≤ x1 ∧ x1 < σ (TB 0) 0 then rmW (kp σ) 0 x1 (kp σ (TB 0) 0 - 1) (kp σ (TB 0) 0 - 1) 0 else σ)) := by
  refine MGE.of (cc := cX6_dropWorker) (maxL := 2) (ret := (some .int)) (own := RX6) [some (.ref (ad 0)), some (.int (iI x1))] (by decide +kernel) rfl rfl (Nat.le_of_ble_eq_true rfl) rfl rfl (fun E X hr => ?_)
  have i4 : ∀ w ∈ wsX40, w ∈ wsX6_dropWorker := by decide +kernel
  have i6 : ∀ w ∈ wsX60, w ∈ wsX6_dropWorker := by decide +kernel
  refine g_rg (fun hR0 => ?_)
  have hT0 := hC.1 0 (by omega) (by omega)
  have hT5 := hC.1 5 (by omega) (by omega)
  have hm := hT0.1
  have hn := hT0.2.1
  have hw := iW_01 σ x1
  refine g_aload0 X dX6_dropWorker_0 ?_
  refine g_iload1 X dX6_dropWorker_1 ?_
  refine g_F1 X (k_X6_isWorker E hT0 hx1) gX6_dropWorker_X6_isWorker rfl (by decide +kernel) (by decide) ob_0 (Nat.le_of_ble_eq_true rfl) dX6_dropWorker_2 (fun hz2 => ?_)
  refine g_rg (fun hR2 => ?_)
  refine g_if_ne (tgt := 10) X (by first | exact hR2 _ _ | exact hR0 _ _ | assumption | (unfold InR; omega)) dX6_dropWorker_5 (by decide) (fun h5 => ?_) (fun h5 => ?_)
  · skip
    have kT := kp_T0 hC.2.1
    have kT0 := kT.1
    have kT1 := kT.2.1
    refine g_aload0 X dX6_dropWorker_10 ?_
    refine gf_6_history X i6 (by decide +kernel) dX6_dropWorker_11 ?_
    refine g_aload0 X dX6_dropWorker_14 ?_
    refine gf_6_table X i6 (by decide +kernel) dX6_dropWorker_15 ?_
    refine g_W1 X (k_X0_keep E hC.2.1) gX6_dropWorker_X0_keep rfl (by decide +kernel) (by decide) ob_1 (Nat.le_of_ble_eq_true rfl) dX6_dropWorker_18 ?_
    refine g_rg (fun hR18 => ?_)
    refine g_aload0 X dX6_dropWorker_21 ?_
    refine gf_6_table X i6 (by decide +kernel) dX6_dropWorker_22 ?_
    refine g_iload1 X dX6_dropWorker_25 ?_
    refine g_W1 X (k_X4_removeWorker E (by omega) (by omega) (by omega) (by omega)) gX6_dropWorker_X4_removeWorker rfl (by decide +kernel) (by decide) (ob_TB (by omega)) (Nat.le_of_ble_eq_true rfl) dX6_dropWorker_26 ?_
    refine g_rg (fun hR26 => ?_)
    have ez : rmW (kp σ) 0 x1 (kp σ (TB 0) 0 - 1) (kp σ (TB 0) 0 - 1) 0 (TB 0) 0 = σ (TB 0) 0 - 1 := by unfold rmW; rw [if_pos ⟨rfl, rfl⟩, kT0]
    refine g_aload0 X dX6_dropWorker_29 ?_
    refine gf_6_table X i6 (by decide +kernel) dX6_dropWorker_30 ?_
    refine gf_4_workers X (by omega) i4 (by decide +kernel) dX6_dropWorker_33 ?_
    exact g_iretF X hr (by first | exact hR26 _ _ | exact hR18 _ _ | exact hR2 _ _ | exact hR0 _ _ | assumption | (unfold InR; omega)) ⟨(by repeat (first | rw [if_pos (by omega)] | rw [if_neg (by omega)]); all_goals omega), (by repeat (first | rw [if_pos (by omega)] | rw [if_neg (by omega)]); all_goals omega)⟩ dX6_dropWorker_36
  · skip
    refine g_iconst X dX6_dropWorker_8 ?_
    exact g_iretF X hr (by first | exact hR2 _ _ | exact hR0 _ _ | assumption | (unfold InR; omega)) ⟨(by repeat (first | rw [if_pos (by omega)] | rw [if_neg (by omega)]); all_goals omega), (by repeat (first | rw [if_pos (by omega)] | rw [if_neg (by omega)]); all_goals omega)⟩ dX6_dropWorker_9

set_option maxHeartbeats 4000000 in
set_option maxRecDepth 100000 in
theorem k_X6_dropTask (E0 : EV) {ad : Int → Nat} {σ : St} {x1 : Int} (hC : CI σ)(hx1 : InR x1) : MGE E0 yX6_dropTask wsX6_dropTask 2 44 ad σ [.ref (ad 0), .int (iI x1)] (PF (if 0 ≤ x1 ∧ x1 < σ (TB 0) 1 then σ (TB 0) 1 - 1 else -1) (if 0 ≤ x1 ∧ x1 < σ (TB 0) 1 then rmT (kp σ) 0 x1 (kp σ (TB 0) 0) x1 else σ)) := by
  refine MGE.of (cc := cX6_dropTask) (maxL := 2) (ret := (some .int)) (own := RX6) [some (.ref (ad 0)), some (.int (iI x1))] (by decide +kernel) rfl rfl (Nat.le_of_ble_eq_true rfl) rfl rfl (fun E X hr => ?_)
  have i4 : ∀ w ∈ wsX40, w ∈ wsX6_dropTask := by decide +kernel
  have i6 : ∀ w ∈ wsX60, w ∈ wsX6_dropTask := by decide +kernel
  refine g_rg (fun hR0 => ?_)
  have hT0 := hC.1 0 (by omega) (by omega)
  have hT5 := hC.1 5 (by omega) (by omega)
  have hm := hT0.1
  have hn := hT0.2.1
  have hw := iK_01 σ x1
  refine g_aload0 X dX6_dropTask_0 ?_
  refine g_iload1 X dX6_dropTask_1 ?_
  refine g_F1 X (k_X6_isTask E hT0 hx1) gX6_dropTask_X6_isTask rfl (by decide +kernel) (by decide) ob_0 (Nat.le_of_ble_eq_true rfl) dX6_dropTask_2 (fun hz2 => ?_)
  refine g_rg (fun hR2 => ?_)
  refine g_if_ne (tgt := 10) X (by first | exact hR2 _ _ | exact hR0 _ _ | assumption | (unfold InR; omega)) dX6_dropTask_5 (by decide) (fun h5 => ?_) (fun h5 => ?_)
  · skip
    have kT := kp_T0 hC.2.1
    have kT0 := kT.1
    have kT1 := kT.2.1
    refine g_aload0 X dX6_dropTask_10 ?_
    refine gf_6_history X i6 (by decide +kernel) dX6_dropTask_11 ?_
    refine g_aload0 X dX6_dropTask_14 ?_
    refine gf_6_table X i6 (by decide +kernel) dX6_dropTask_15 ?_
    refine g_W1 X (k_X0_keep E hC.2.1) gX6_dropTask_X0_keep rfl (by decide +kernel) (by decide) ob_1 (Nat.le_of_ble_eq_true rfl) dX6_dropTask_18 ?_
    refine g_rg (fun hR18 => ?_)
    refine g_aload0 X dX6_dropTask_21 ?_
    refine gf_6_table X i6 (by decide +kernel) dX6_dropTask_22 ?_
    refine g_iload1 X dX6_dropTask_25 ?_
    refine g_W1 X (k_X4_removeTask E (by omega) (by omega) (by omega) (by omega)) gX6_dropTask_X4_removeTask rfl (by decide +kernel) (by decide) (ob_TB (by omega)) (Nat.le_of_ble_eq_true rfl) dX6_dropTask_26 ?_
    refine g_rg (fun hR26 => ?_)
    have ez : rmT (kp σ) 0 x1 (kp σ (TB 0) 0) x1 (TB 0) 1 = σ (TB 0) 1 - 1 := by unfold rmT; rw [if_pos ⟨rfl, rfl⟩, kT1]
    refine g_aload0 X dX6_dropTask_29 ?_
    refine gf_6_table X i6 (by decide +kernel) dX6_dropTask_30 ?_
    refine gf_4_tasks X (by omega) i4 (by decide +kernel) dX6_dropTask_33 ?_
    exact g_iretF X hr (by first | exact hR26 _ _ | exact hR18 _ _ | exact hR2 _ _ | exact hR0 _ _ | assumption | (unfold InR; omega)) ⟨(by repeat (first | rw [if_pos (by omega)] | rw [if_neg (by omega)]); all_goals omega), (by repeat (first | rw [if_pos (by omega)] | rw [if_neg (by omega)]); all_goals omega)⟩ dX6_dropTask_36
  · skip
    refine g_iconst X dX6_dropTask_8 ?_
    exact g_iretF X hr (by first | exact hR2 _ _ | exact hR0 _ _ | assumption | (unfold InR; omega)) ⟨(by repeat (first | rw [if_pos (by omega)] | rw [if_neg (by omega)]); all_goals omega), (by repeat (first | rw [if_pos (by omega)] | rw [if_neg (by omega)]); all_goals omega)⟩ dX6_dropTask_9

set_option maxHeartbeats 4000000 in
set_option maxRecDepth 100000 in
theorem k_X6_cost (E0 : EV) {ad : Int → Nat} {σ : St} {x1 x2 x3 : Int} (hC : CI σ)(hx1 : InR x1)(hx2 : InR x2)(hx3 : InR x3) : MGE E0 yX6_cost wsX6_cost 6 138 ad σ [.ref (ad 0), .int (iI x1), .int (iI x2), .int (iI x3)] (PI (fun z σ' => z = (if (0 ≤ x1 ∧ x1 < σ (TB 0) 0) ∧ (0 ≤ x2 ∧ x2 < σ (TB 0) 1) ∧ 0 ≤ x3 ∧ x3 ≤ 9999 then 100000 + (RW (up (kp σ) (TR 0 x1) x2 x3) (AW (up (kp σ) (TR 0 x1) x2 x3)) 0 0 - RW σ (AW σ) 0 0) else -1) ∧ QQ (if (0 ≤ x1 ∧ x1 < σ (TB 0) 0) ∧ (0 ≤ x2 ∧ x2 < σ (TB 0) 1) ∧ 0 ≤ x3 ∧ x3 ≤ 9999 then up (kp σ) (TR 0 x1) x2 x3 else σ) σ')) := by
  refine MGE.of (cc := cX6_cost) (maxL := 4) (ret := (some .int)) (own := RX6) [some (.ref (ad 0)), some (.int (iI x1)), some (.int (iI x2)), some (.int (iI x3))] (by decide +kernel) rfl rfl (Nat.le_of_ble_eq_true rfl) rfl rfl (fun E X hr => ?_)
  refine g_rg (fun hR0 => ?_)
  have hT0 := hC.1 0 (by omega) (by omega)
  have hT5 := hC.1 5 (by omega) (by omega)
  have hm := hT0.1
  have hn := hT0.2.1
  have hw := iW_01 σ x1
  have hk := iK_01 σ x2
  have hc := iC_01 x3
  refine g_aload0 X dX6_cost_0 ?_
  refine g_iload1 X dX6_cost_1 ?_
  refine g_F1 X (k_X6_isWorker E hT0 hx1) gX6_cost_X6_isWorker rfl (by decide +kernel) (by decide) ob_0 (Nat.le_of_ble_eq_true rfl) dX6_cost_2 (fun hz2 => ?_)
  refine g_rg (fun hR2 => ?_)
  refine g_if_eq (tgt := 23) X (by first | exact hR2 _ _ | exact hR0 _ _ | assumption | (unfold InR; omega)) dX6_cost_5 (by decide) (fun h5 => ?_) (fun h5 => ?_)
  · skip
    refine g_iconst X dX6_cost_23 ?_
    exact g_iret X hr (by first | exact hR2 _ _ | exact hR0 _ _ | assumption | (unfold InR; omega)) ⟨(by repeat (first | rw [if_pos (by omega)] | rw [if_neg (by omega)]); all_goals omega), (by first | exact QQ.rf hT5 | (rw [if_neg (by omega)]; exact QQ.rf hT5))⟩ dX6_cost_24
  · skip
    refine g_aload0 X dX6_cost_8 ?_
    refine g_iload2 X dX6_cost_9 ?_
    refine g_F1 X (k_X6_isTask E hT0 hx2) gX6_cost_X6_isTask rfl (by decide +kernel) (by decide) ob_0 (Nat.le_of_ble_eq_true rfl) dX6_cost_10 (fun hz10 => ?_)
    refine g_rg (fun hR10 => ?_)
    refine g_if_eq (tgt := 23) X (by first | exact hR10 _ _ | exact hR2 _ _ | exact hR0 _ _ | assumption | (unfold InR; omega)) dX6_cost_13 (by decide) (fun h13 => ?_) (fun h13 => ?_)
    · skip
      refine g_iconst X dX6_cost_23 ?_
      exact g_iret X hr (by first | exact hR10 _ _ | exact hR2 _ _ | exact hR0 _ _ | assumption | (unfold InR; omega)) ⟨(by repeat (first | rw [if_pos (by omega)] | rw [if_neg (by omega)]); all_goals omega), (by first | exact QQ.rf hT5 | (rw [if_neg (by omega)]; exact QQ.rf hT5))⟩ dX6_cost_24
    · skip
      refine g_iload3 X dX6_cost_16 ?_
      refine g_SF1 X (k_X6_isCost E hx3) gX6_cost_X6_isCost rfl (by decide +kernel) (by decide) (Nat.le_of_ble_eq_true rfl) dX6_cost_17 (fun hz17 => ?_)
      refine g_rg (fun hR17 => ?_)
      refine g_if_ne (tgt := 25) X (by first | exact hR17 _ _ | exact hR10 _ _ | exact hR2 _ _ | exact hR0 _ _ | assumption | (unfold InR; omega)) dX6_cost_20 (by decide) (fun h20 => ?_) (fun h20 => ?_)
      · skip
        refine g_ldc X (z := 100000) (by decide +kernel) rfl dX6_cost_25 ?_
        refine g_aload0 X dX6_cost_27 ?_
        refine g_iload1 X dX6_cost_28 ?_
        refine g_iload2 X dX6_cost_29 ?_
        refine g_iload3 X dX6_cost_30 ?_
        refine g_I3 X (k_X6_changePair E hC (by omega) (by omega) (by omega)) gX6_cost_X6_changePair rfl (by decide +kernel) (by decide) ob_0 (Nat.le_of_ble_eq_true rfl) dX6_cost_31 (fun z31 σ31 hz31 hp31 => ?_)
        refine g_rg (fun hR31 => ?_)
        have hzr := RW_b hT0 (AW σ) 0 0 (by omega)
        have hzi := hz31
        unfold InR at hzi
        have hzb : z31 ≤ 70000 := by
          have hTu : TOK (up (kp σ) (TR 0 x1) x2 x3) 0 := by
            have hTk := hC.kept.1 0 (by omega) (by omega)
            refine ⟨by unfold up; rw [if_neg (by unfold TB TR; omega)]; exact hTk.1, by unfold up; rw [if_neg (by unfold TB TR; omega)]; exact hTk.2.1, fun v a b => by unfold up; rw [if_neg (by unfold TI TR; omega)]; exact hTk.2.2.1 v a b, fun v i a b d e => ?_⟩
            unfold up
            by_cases h : TR 0 v = TR 0 x1 ∧ i = x2
            · rw [if_pos h]; omega
            · rw [if_neg h]; exact hTk.2.2.2 v i a b d e
          have hzr2 := RW_b hTu (AW (up (kp σ) (TR 0 x1) x2 x3)) 0 0 (by omega)
          have hzz := hp31.1
          omega
        refine g_iadd X dX6_cost_34 ?_
        exact g_iret X hr (by first | exact hR31 _ _ | exact hR17 _ _ | exact hR10 _ _ | exact hR2 _ _ | exact hR0 _ _ | assumption | (unfold InR; omega)) ⟨by rw [if_pos (by omega), hp31.1], by rw [if_pos (by omega)]; exact hp31.2⟩ dX6_cost_35
      · skip
        refine g_iconst X dX6_cost_23 ?_
        exact g_iret X hr (by first | exact hR17 _ _ | exact hR10 _ _ | exact hR2 _ _ | exact hR0 _ _ | assumption | (unfold InR; omega)) ⟨(by repeat (first | rw [if_pos (by omega)] | rw [if_neg (by omega)]); all_goals omega), (by first | exact QQ.rf hT5 | (rw [if_neg (by omega)]; exact QQ.rf hT5))⟩ dX6_cost_24

set_option maxHeartbeats 4000000 in
set_option maxRecDepth 100000 in
theorem k_X6_bar (E0 : EV) {ad : Int → Nat} {σ : St} {x1 x2 : Int} (hC : CI σ)(hx1 : InR x1)(hx2 : InR x2) : MGE E0 yX6_bar wsX6_bar 6 138 ad σ [.ref (ad 0), .int (iI x1), .int (iI x2)] (PI (fun z σ' => z = (if (0 ≤ x1 ∧ x1 < σ (TB 0) 0) ∧ (0 ≤ x2 ∧ x2 < σ (TB 0) 1) then (if isB σ 0 x1 x2 = 1 then -2 else RW (up (kp σ) (TR 0 x1) x2 (-1)) (AW (up (kp σ) (TR 0 x1) x2 (-1))) 0 0 - RW σ (AW σ) 0 0) else -1) ∧ QQ (if (0 ≤ x1 ∧ x1 < σ (TB 0) 0) ∧ (0 ≤ x2 ∧ x2 < σ (TB 0) 1) ∧ isB σ 0 x1 x2 ≠ 1 then up (kp σ) (TR 0 x1) x2 (-1) else σ) σ')) := by
  refine MGE.of (cc := cX6_bar) (maxL := 3) (ret := (some .int)) (own := RX6) [some (.ref (ad 0)), some (.int (iI x1)), some (.int (iI x2))] (by decide +kernel) rfl rfl (Nat.le_of_ble_eq_true rfl) rfl rfl (fun E X hr => ?_)
  have i6 : ∀ w ∈ wsX60, w ∈ wsX6_bar := by decide +kernel
  refine g_rg (fun hR0 => ?_)
  have hT0 := hC.1 0 (by omega) (by omega)
  have hT5 := hC.1 5 (by omega) (by omega)
  have hm := hT0.1
  have hn := hT0.2.1
  have hw := iW_01 σ x1
  have hk := iK_01 σ x2
  have hb := isB_01 σ 0 x1 x2
  refine g_aload0 X dX6_bar_0 ?_
  refine g_iload1 X dX6_bar_1 ?_
  refine g_F1 X (k_X6_isWorker E hT0 hx1) gX6_bar_X6_isWorker rfl (by decide +kernel) (by decide) ob_0 (Nat.le_of_ble_eq_true rfl) dX6_bar_2 (fun hz2 => ?_)
  refine g_rg (fun hR2 => ?_)
  refine g_if_eq (tgt := 16) X (by first | exact hR2 _ _ | exact hR0 _ _ | assumption | (unfold InR; omega)) dX6_bar_5 (by decide) (fun h5 => ?_) (fun h5 => ?_)
  · skip
    refine g_iconst X dX6_bar_16 ?_
    exact g_iret X hr (by first | exact hR2 _ _ | exact hR0 _ _ | assumption | (unfold InR; omega)) ⟨(by repeat (first | rw [if_pos (by omega)] | rw [if_neg (by omega)]); all_goals omega), (by first | exact QQ.rf hT5 | (rw [if_neg (by omega)]; exact QQ.rf hT5))⟩ dX6_bar_17
  · skip
    refine g_aload0 X dX6_bar_8 ?_
    refine g_iload2 X dX6_bar_9 ?_
    refine g_F1 X (k_X6_isTask E hT0 hx2) gX6_bar_X6_isTask rfl (by decide +kernel) (by decide) ob_0 (Nat.le_of_ble_eq_true rfl) dX6_bar_10 (fun hz10 => ?_)
    refine g_rg (fun hR10 => ?_)
    refine g_if_ne (tgt := 18) X (by first | exact hR10 _ _ | exact hR2 _ _ | exact hR0 _ _ | assumption | (unfold InR; omega)) dX6_bar_13 (by decide) (fun h13 => ?_) (fun h13 => ?_)
    · skip
      refine g_aload0 X dX6_bar_18 ?_
      refine gf_6_table X i6 (by decide +kernel) dX6_bar_19 ?_
      refine g_iload1 X dX6_bar_22 ?_
      refine g_iload2 X dX6_bar_23 ?_
      refine g_F2 X (k_X4_isBarred E (by omega) (by omega) (by omega)) gX6_bar_X4_isBarred rfl (by decide +kernel) (by decide) (ob_TB (by omega)) (Nat.le_of_ble_eq_true rfl) dX6_bar_24 (fun hz24 => ?_)
      refine g_rg (fun hR24 => ?_)
      refine g_if_eq (tgt := 33) X (by first | exact hR24 _ _ | exact hR10 _ _ | exact hR2 _ _ | exact hR0 _ _ | assumption | (unfold InR; omega)) dX6_bar_27 (by decide) (fun h27 => ?_) (fun h27 => ?_)
      · skip
        refine g_aload0 X dX6_bar_33 ?_
        refine g_iload1 X dX6_bar_34 ?_
        refine g_iload2 X dX6_bar_35 ?_
        refine g_iconst X dX6_bar_36 ?_
        refine g_I3 X (k_X6_changePair E hC (by omega) (by omega) (by omega)) gX6_bar_X6_changePair rfl (by decide +kernel) (by decide) ob_0 (Nat.le_of_ble_eq_true rfl) dX6_bar_37 (fun z37 σ37 hz37 hp37 => ?_)
        refine g_rg (fun hR37 => ?_)
        exact g_iret X hr (by first | exact hR37 _ _ | exact hR24 _ _ | exact hR10 _ _ | exact hR2 _ _ | exact hR0 _ _ | assumption | (unfold InR; omega)) ⟨by rw [if_pos (by omega), if_neg (by omega), hp37.1], by rw [if_pos (by omega)]; exact hp37.2⟩ dX6_bar_40
      · skip
        refine g_bipush X dX6_bar_30 (by decide +kernel) ?_
        exact g_iret X hr (by first | exact hR24 _ _ | exact hR10 _ _ | exact hR2 _ _ | exact hR0 _ _ | assumption | (unfold InR; omega)) ⟨(by repeat (first | rw [if_pos (by omega)] | rw [if_neg (by omega)]); all_goals omega), (by first | exact QQ.rf hT5 | (rw [if_neg (by omega)]; exact QQ.rf hT5))⟩ dX6_bar_32
    · skip
      refine g_iconst X dX6_bar_16 ?_
      exact g_iret X hr (by first | exact hR10 _ _ | exact hR2 _ _ | exact hR0 _ _ | assumption | (unfold InR; omega)) ⟨(by repeat (first | rw [if_pos (by omega)] | rw [if_neg (by omega)]); all_goals omega), (by first | exact QQ.rf hT5 | (rw [if_neg (by omega)]; exact QQ.rf hT5))⟩ dX6_bar_17

set_option maxHeartbeats 4000000 in
set_option maxRecDepth 100000 in
theorem k_X6_idle (E0 : EV) {ad : Int → Nat} {σ : St} {x1 x2 : Int} (hC : CI σ)(hx1 : InR x1)(hx2 : InR x2) : MGE E0 yX6_idle wsX6_idle 2 44 ad σ [.ref (ad 0), .int (iI x1), .int (iI x2)] (PF (if (0 ≤ x1 ∧ x1 < σ (TB 0) 0) ∧ 0 ≤ x2 ∧ x2 ≤ 9999 then σ (TI 0) x1 else -1) (if (0 ≤ x1 ∧ x1 < σ (TB 0) 0) ∧ 0 ≤ x2 ∧ x2 ≤ 9999 then up (kp σ) (TI 0) x1 x2 else σ)) := by
  refine MGE.of (cc := cX6_idle) (maxL := 4) (ret := (some .int)) (own := RX6) [some (.ref (ad 0)), some (.int (iI x1)), some (.int (iI x2)), none] (by decide +kernel) rfl rfl (Nat.le_of_ble_eq_true rfl) rfl rfl (fun E X hr => ?_)
  have i4 : ∀ w ∈ wsX40, w ∈ wsX6_idle := by decide +kernel
  have i6 : ∀ w ∈ wsX60, w ∈ wsX6_idle := by decide +kernel
  refine g_rg (fun hR0 => ?_)
  have hT0 := hC.1 0 (by omega) (by omega)
  have hT5 := hC.1 5 (by omega) (by omega)
  have hm := hT0.1
  have hn := hT0.2.1
  have hw := iW_01 σ x1
  have hc := iC_01 x2
  refine g_aload0 X dX6_idle_0 ?_
  refine g_iload1 X dX6_idle_1 ?_
  refine g_F1 X (k_X6_isWorker E hT0 hx1) gX6_idle_X6_isWorker rfl (by decide +kernel) (by decide) ob_0 (Nat.le_of_ble_eq_true rfl) dX6_idle_2 (fun hz2 => ?_)
  refine g_rg (fun hR2 => ?_)
  refine g_if_eq (tgt := 15) X (by first | exact hR2 _ _ | exact hR0 _ _ | assumption | (unfold InR; omega)) dX6_idle_5 (by decide) (fun h5 => ?_) (fun h5 => ?_)
  · skip
    refine g_iconst X dX6_idle_15 ?_
    exact g_iretF X hr (by first | exact hR2 _ _ | exact hR0 _ _ | assumption | (unfold InR; omega)) ⟨(by repeat (first | rw [if_pos (by omega)] | rw [if_neg (by omega)]); all_goals omega), (by repeat (first | rw [if_pos (by omega)] | rw [if_neg (by omega)]); all_goals omega)⟩ dX6_idle_16
  · skip
    refine g_iload2 X dX6_idle_8 ?_
    refine g_SF1 X (k_X6_isCost E hx2) gX6_idle_X6_isCost rfl (by decide +kernel) (by decide) (Nat.le_of_ble_eq_true rfl) dX6_idle_9 (fun hz9 => ?_)
    refine g_rg (fun hR9 => ?_)
    refine g_if_ne (tgt := 17) X (by first | exact hR9 _ _ | exact hR2 _ _ | exact hR0 _ _ | assumption | (unfold InR; omega)) dX6_idle_12 (by decide) (fun h12 => ?_) (fun h12 => ?_)
    · skip
      have kT := kp_T0 hC.2.1
      have kT0 := kT.1
      have kT1 := kT.2.1
      have kT2 := kT.2.2.1 x1
      refine g_aload0 X dX6_idle_17 ?_
      refine gf_6_history X i6 (by decide +kernel) dX6_idle_18 ?_
      refine g_aload0 X dX6_idle_21 ?_
      refine gf_6_table X i6 (by decide +kernel) dX6_idle_22 ?_
      refine g_W1 X (k_X0_keep E hC.2.1) gX6_idle_X0_keep rfl (by decide +kernel) (by decide) ob_1 (Nat.le_of_ble_eq_true rfl) dX6_idle_25 ?_
      refine g_rg (fun hR25 => ?_)
      refine g_aload0 X dX6_idle_28 ?_
      refine gf_6_table X i6 (by decide +kernel) dX6_idle_29 ?_
      refine gf_4_idleCosts X (by omega) i4 (by decide +kernel) dX6_idle_32 ?_
      refine g_iload1 X dX6_idle_35 ?_
      refine g_iald X (ia_TI (by omega) (by omega)) dX6_idle_36 ?_
      rw [kT2]
      refine g_istore3 X dX6_idle_37 (by decide) (by first | exact Or.inl rfl | exact Or.inr ⟨_, rfl, rfl⟩) ?_
      refine g_aload0 X dX6_idle_38 ?_
      refine gf_6_table X i6 (by decide +kernel) dX6_idle_39 ?_
      refine gf_4_idleCosts X (by omega) i4 (by decide +kernel) dX6_idle_42 ?_
      refine g_iload1 X dX6_idle_45 ?_
      refine g_iload2 X dX6_idle_46 ?_
      refine g_iast X (ia_TI (by omega) (by omega)) (by first | exact hR25 _ _ | exact hR9 _ _ | exact hR2 _ _ | exact hR0 _ _ | assumption | (unfold InR; omega)) dX6_idle_47 ?_
      refine g_rg (fun hR47 => ?_)
      refine g_iload3 X dX6_idle_48 ?_
      exact g_iretF X hr (by first | exact hR47 _ _ | exact hR25 _ _ | exact hR9 _ _ | exact hR2 _ _ | exact hR0 _ _ | assumption | (unfold InR; omega)) ⟨(by repeat (first | rw [if_pos (by omega)] | rw [if_neg (by omega)]); all_goals omega), (by repeat (first | rw [if_pos (by omega)] | rw [if_neg (by omega)]); all_goals omega)⟩ dX6_idle_49
    · skip
      refine g_iconst X dX6_idle_15 ?_
      exact g_iretF X hr (by first | exact hR9 _ _ | exact hR2 _ _ | exact hR0 _ _ | assumption | (unfold InR; omega)) ⟨(by repeat (first | rw [if_pos (by omega)] | rw [if_neg (by omega)]); all_goals omega), (by repeat (first | rw [if_pos (by omega)] | rw [if_neg (by omega)]); all_goals omega)⟩ dX6_idle_16

set_option maxHeartbeats 4000000 in
set_option maxRecDepth 100000 in
theorem k_X6_times (E0 : EV) {ad : Int → Nat} {σ : St} {x1 x2 : Int} (hC : CI σ)(hx1 : InR x1)(hx2 : InR x2) : MGE E0 yX6_times wsX6_times 2 45 ad σ [.ref (ad 0), .int (iI x1), .int (iI x2)] (PF (if (0 ≤ x1 ∧ x1 < σ (TB 0) 0) ∧ 0 ≤ x2 ∧ x2 ≤ 2000000000 then (if gC σ 0 x1 (σ (TB 0) 1) * x2 ≤ 9999 then gC σ 0 x1 (σ (TB 0) 1) * x2 else -3) else -1) (if ((0 ≤ x1 ∧ x1 < σ (TB 0) 0) ∧ 0 ≤ x2 ∧ x2 ≤ 2000000000) ∧ gC σ 0 x1 (σ (TB 0) 1) * x2 ≤ 9999 then muC (kp σ) 0 x1 x2 (kp σ (TB 0) 1) else σ)) := by
  refine MGE.of (cc := cX6_times) (maxL := 5) (ret := (some .int)) (own := RX6) [some (.ref (ad 0)), some (.int (iI x1)), some (.int (iI x2)), none, none] (by decide +kernel) rfl rfl (Nat.le_of_ble_eq_true rfl) rfl rfl (fun E X hr => ?_)
  have i6 : ∀ w ∈ wsX60, w ∈ wsX6_times := by decide +kernel
  refine g_rg (fun hR0 => ?_)
  have hT0 := hC.1 0 (by omega) (by omega)
  have hT5 := hC.1 5 (by omega) (by omega)
  have hm := hT0.1
  have hn := hT0.2.1
  have hw := iW_01 σ x1
  refine g_aload0 X dX6_times_0 ?_
  refine g_iload1 X dX6_times_1 ?_
  refine g_F1 X (k_X6_isWorker E hT0 hx1) gX6_times_X6_isWorker rfl (by decide +kernel) (by decide) ob_0 (Nat.le_of_ble_eq_true rfl) dX6_times_2 (fun hz2 => ?_)
  refine g_rg (fun hR2 => ?_)
  refine g_if_eq (tgt := 18) X (by first | exact hR2 _ _ | exact hR0 _ _ | assumption | (unfold InR; omega)) dX6_times_5 (by decide) (fun h5 => ?_) (fun h5 => ?_)
  · skip
    refine g_iconst X dX6_times_18 ?_
    exact g_iretF X hr (by first | exact hR2 _ _ | exact hR0 _ _ | assumption | (unfold InR; omega)) ⟨(by repeat (first | rw [if_pos (by omega)] | rw [if_neg (by omega)]); all_goals omega), (by repeat (first | rw [if_pos (by omega)] | rw [if_neg (by omega)]); all_goals omega)⟩ dX6_times_19
  · skip
    refine g_iload2 X dX6_times_8 ?_
    refine g_if_lt (tgt := 18) X (by first | exact hR2 _ _ | exact hR0 _ _ | assumption | (unfold InR; omega)) dX6_times_9 (by decide) (fun h9 => ?_) (fun h9 => ?_)
    · skip
      refine g_iconst X dX6_times_18 ?_
      exact g_iretF X hr (by first | exact hR2 _ _ | exact hR0 _ _ | assumption | (unfold InR; omega)) ⟨(by repeat (first | rw [if_pos (by omega)] | rw [if_neg (by omega)]); all_goals omega), (by repeat (first | rw [if_pos (by omega)] | rw [if_neg (by omega)]); all_goals omega)⟩ dX6_times_19
    · skip
      refine g_iload2 X dX6_times_12 ?_
      refine g_ldc X (z := 2000000000) (by decide +kernel) rfl dX6_times_13 ?_
      refine g_icmp_le (tgt := 20) X (by first | exact hR2 _ _ | exact hR0 _ _ | assumption | (unfold InR; omega)) (by first | exact hR2 _ _ | exact hR0 _ _ | assumption | (unfold InR; omega)) dX6_times_15 (by decide) (fun h15 => ?_) (fun h15 => ?_)
      · skip
        have hg := gC_u hT0 (w := x1) (by omega)
        have hp0 : 0 ≤ gC σ 0 x1 (σ (TB 0) 1) * x2 := Int.mul_nonneg hg.1.1 (by omega)
        have hp1 : gC σ 0 x1 (σ (TB 0) 1) * x2 ≤ 9999 * 2000000000 := Int.le_trans (Int.mul_le_mul_of_nonneg_right hg.1.2 (by omega)) (Int.mul_le_mul_of_nonneg_left (by omega) (by omega))
        have hInL : InL (gC σ 0 x1 (σ (TB 0) 1) * x2) := ⟨by omega, by omega⟩
        refine g_aload0 X dX6_times_20 ?_
        refine gf_6_table X i6 (by decide +kernel) dX6_times_21 ?_
        refine g_iload1 X dX6_times_24 ?_
        refine g_F1 X (k_X4_greatestCost E (by omega) (by omega) (by omega)) gX6_times_X4_greatestCost rfl (by decide +kernel) (by decide) (ob_TB (by omega)) (Nat.le_of_ble_eq_true rfl) dX6_times_25 (fun hz25 => ?_)
        refine g_rg (fun hR25 => ?_)
        refine g_i2l X dX6_times_28 ?_
        refine g_iload2 X dX6_times_29 ?_
        refine g_i2l X dX6_times_30 ?_
        refine g_lmul X dX6_times_31 ?_
        rw [iI_l (by unfold InR; omega), iI_l hx2, lL_mul]
        refine g_lstore3 X dX6_times_32 (by decide) (by first | exact Or.inl rfl | exact Or.inr ⟨_, rfl, rfl⟩) ?_
        refine g_lload3 X dX6_times_33 ?_
        refine g_ldc2 X (v := 9999) (by decide +kernel) dX6_times_34 ?_
        rw [show (9999 : Int64) = lL 9999 from rfl]
        refine g_lcmp X dX6_times_37 ?_
        rw [lL_cmp (b := 9999) hInL ⟨by omega, by omega⟩]
        have hc3 : (c3 (gC σ 0 x1 (σ (TB 0) 1) * x2) 9999 = -1 ∧ gC σ 0 x1 (σ (TB 0) 1) * x2 < 9999) ∨ (c3 (gC σ 0 x1 (σ (TB 0) 1) * x2) 9999 = 0 ∧ gC σ 0 x1 (σ (TB 0) 1) * x2 = 9999) ∨ (c3 (gC σ 0 x1 (σ (TB 0) 1) * x2) 9999 = 1 ∧ 9999 < gC σ 0 x1 (σ (TB 0) 1) * x2) := by
          unfold c3
          by_cases h1 : gC σ 0 x1 (σ (TB 0) 1) * x2 < 9999
          · rw [if_pos h1]; omega
          · rw [if_neg h1]
            by_cases h2 : gC σ 0 x1 (σ (TB 0) 1) * x2 = 9999
            · rw [if_pos h2]; omega
            · rw [if_neg h2]; omega
        refine g_if_le (tgt := 44) X (by first | exact hR25 _ _ | exact hR2 _ _ | exact hR0 _ _ | assumption | (unfold InR; omega)) dX6_times_38 (by decide) (fun h38 => ?_) (fun h38 => ?_)
        · skip
          have kT := kp_T0 hC.2.1
          have kT0 := kT.1
          have kT1 := kT.2.1
          have hd1 := hT0.2.2.1 x1 (by omega) (by omega)
          have hi9 : 0 ≤ kp σ (TI 0) x1 * x2 ∧ kp σ (TI 0) x1 * x2 ≤ 9999 := by
            rw [kT.2.2.1]
            exact mul_b hd1.1 hg.2.1 (by omega) (by omega)
          have hc9 : ∀ j, 0 ≤ j → j < kp σ (TB 0) 1 → kp σ (TR 0 x1) j ≠ -1 → 0 ≤ kp σ (TR 0 x1) j * x2 ∧ kp σ (TR 0 x1) j * x2 ≤ 9999 := fun j a b c => by
            rw [kT.2.2.2 x1 j (by omega) (by omega)] at c ⊢
            have hcc := hT0.2.2.2 x1 j (by omega) (by omega) a (by omega)
            exact mul_b (by omega) (hg.2.2 j a (by omega)) (by omega) (by omega)
          refine g_aload0 X dX6_times_44 ?_
          refine gf_6_history X i6 (by decide +kernel) dX6_times_45 ?_
          refine g_aload0 X dX6_times_48 ?_
          refine gf_6_table X i6 (by decide +kernel) dX6_times_49 ?_
          refine g_W1 X (k_X0_keep E hC.2.1) gX6_times_X0_keep rfl (by decide +kernel) (by decide) ob_1 (Nat.le_of_ble_eq_true rfl) dX6_times_52 ?_
          refine g_rg (fun hR52 => ?_)
          refine g_aload0 X dX6_times_55 ?_
          refine gf_6_table X i6 (by decide +kernel) dX6_times_56 ?_
          refine g_iload1 X dX6_times_59 ?_
          refine g_iload2 X dX6_times_60 ?_
          refine g_W2 X (k_X4_multiplyCosts E (by omega) (by omega) (by omega) hi9 hc9) gX6_times_X4_multiplyCosts rfl (by decide +kernel) (by decide) (ob_TB (by omega)) (Nat.le_of_ble_eq_true rfl) dX6_times_61 ?_
          refine g_rg (fun hR61 => ?_)
          refine g_lload3 X dX6_times_64 ?_
          refine g_l2i X dX6_times_65 ?_
          rw [lL_i (by unfold InR; omega)]
          exact g_iretF X hr (by first | exact hR61 _ _ | exact hR52 _ _ | exact hR25 _ _ | exact hR2 _ _ | exact hR0 _ _ | assumption | (unfold InR; omega)) ⟨(by repeat (first | rw [if_pos (by omega)] | rw [if_neg (by omega)]); all_goals omega), (by repeat (first | rw [if_pos (by omega)] | rw [if_neg (by omega)]); all_goals omega)⟩ dX6_times_66
        · skip
          refine g_bipush X dX6_times_41 (by decide +kernel) ?_
          exact g_iretF X hr (by first | exact hR25 _ _ | exact hR2 _ _ | exact hR0 _ _ | assumption | (unfold InR; omega)) ⟨(by repeat (first | rw [if_pos (by omega)] | rw [if_neg (by omega)]); all_goals omega), (by repeat (first | rw [if_pos (by omega)] | rw [if_neg (by omega)]); all_goals omega)⟩ dX6_times_43
      · skip
        refine g_iconst X dX6_times_18 ?_
        exact g_iretF X hr (by first | exact hR2 _ _ | exact hR0 _ _ | assumption | (unfold InR; omega)) ⟨(by repeat (first | rw [if_pos (by omega)] | rw [if_neg (by omega)]); all_goals omega), (by repeat (first | rw [if_pos (by omega)] | rw [if_neg (by omega)]); all_goals omega)⟩ dX6_times_19

set_option maxHeartbeats 4000000 in
set_option maxRecDepth 100000 in
theorem k_X6_costOf (E0 : EV) {ad : Int → Nat} {σ : St} {x1 x2 : Int} (hC : CI σ)(hx1 : InR x1)(hx2 : InR x2) : MGE E0 yX6_costOf wsX6_costOf 2 42 ad σ [.ref (ad 0), .int (iI x1), .int (iI x2)] (PF (if (0 ≤ x1 ∧ x1 < σ (TB 0) 0) ∧ (x2 = -1 ∨ (0 ≤ x2 ∧ x2 < σ (TB 0) 1)) then (if isB σ 0 x1 x2 = 1 then -4 else cW σ 0 x1 x2) else -1) σ) := by
  refine MGE.of (cc := cX6_costOf) (maxL := 3) (ret := (some .int)) (own := RX6) [some (.ref (ad 0)), some (.int (iI x1)), some (.int (iI x2))] (by decide +kernel) rfl rfl (Nat.le_of_ble_eq_true rfl) rfl rfl (fun E X hr => ?_)
  have i6 : ∀ w ∈ wsX60, w ∈ wsX6_costOf := by decide +kernel
  refine g_rg (fun hR0 => ?_)
  have hT0 := hC.1 0 (by omega) (by omega)
  have hT5 := hC.1 5 (by omega) (by omega)
  have hm := hT0.1
  have hn := hT0.2.1
  have hw := iW_01 σ x1
  have hk := iN_01 σ x2
  have hb := isB_01 σ 0 x1 x2
  refine g_aload0 X dX6_costOf_0 ?_
  refine g_iload1 X dX6_costOf_1 ?_
  refine g_F1 X (k_X6_isWorker E hT0 hx1) gX6_costOf_X6_isWorker rfl (by decide +kernel) (by decide) ob_0 (Nat.le_of_ble_eq_true rfl) dX6_costOf_2 (fun hz2 => ?_)
  refine g_rg (fun hR2 => ?_)
  refine g_if_eq (tgt := 16) X (by first | exact hR2 _ _ | exact hR0 _ _ | assumption | (unfold InR; omega)) dX6_costOf_5 (by decide) (fun h5 => ?_) (fun h5 => ?_)
  · skip
    refine g_iconst X dX6_costOf_16 ?_
    exact g_iretF X hr (by first | exact hR2 _ _ | exact hR0 _ _ | assumption | (unfold InR; omega)) ⟨(by repeat (first | rw [if_pos (by omega)] | rw [if_neg (by omega)]); all_goals omega), rfl⟩ dX6_costOf_17
  · skip
    refine g_aload0 X dX6_costOf_8 ?_
    refine g_iload2 X dX6_costOf_9 ?_
    refine g_F1 X (k_X6_isTaskOrNone E hT0 hx2) gX6_costOf_X6_isTaskOrNone rfl (by decide +kernel) (by decide) ob_0 (Nat.le_of_ble_eq_true rfl) dX6_costOf_10 (fun hz10 => ?_)
    refine g_rg (fun hR10 => ?_)
    refine g_if_ne (tgt := 18) X (by first | exact hR10 _ _ | exact hR2 _ _ | exact hR0 _ _ | assumption | (unfold InR; omega)) dX6_costOf_13 (by decide) (fun h13 => ?_) (fun h13 => ?_)
    · skip
      refine g_aload0 X dX6_costOf_18 ?_
      refine gf_6_table X i6 (by decide +kernel) dX6_costOf_19 ?_
      refine g_iload1 X dX6_costOf_22 ?_
      refine g_iload2 X dX6_costOf_23 ?_
      refine g_F2 X (k_X4_isBarred E (by omega) (by omega) (by omega)) gX6_costOf_X4_isBarred rfl (by decide +kernel) (by decide) (ob_TB (by omega)) (Nat.le_of_ble_eq_true rfl) dX6_costOf_24 (fun hz24 => ?_)
      refine g_rg (fun hR24 => ?_)
      refine g_if_eq (tgt := 33) X (by first | exact hR24 _ _ | exact hR10 _ _ | exact hR2 _ _ | exact hR0 _ _ | assumption | (unfold InR; omega)) dX6_costOf_27 (by decide) (fun h27 => ?_) (fun h27 => ?_)
      · skip
        refine g_aload0 X dX6_costOf_33 ?_
        refine gf_6_table X i6 (by decide +kernel) dX6_costOf_34 ?_
        refine g_iload1 X dX6_costOf_37 ?_
        refine g_iload2 X dX6_costOf_38 ?_
        refine g_F2 X (k_X4_costWith E (by omega) (by omega) (by omega)) gX6_costOf_X4_costWith rfl (by decide +kernel) (by decide) (ob_TB (by omega)) (Nat.le_of_ble_eq_true rfl) dX6_costOf_39 (fun hz39 => ?_)
        refine g_rg (fun hR39 => ?_)
        exact g_iretF X hr (by first | exact hR39 _ _ | exact hR24 _ _ | exact hR10 _ _ | exact hR2 _ _ | exact hR0 _ _ | assumption | (unfold InR; omega)) ⟨(by repeat (first | rw [if_pos (by omega)] | rw [if_neg (by omega)]); all_goals omega), rfl⟩ dX6_costOf_42
      · skip
        refine g_bipush X dX6_costOf_30 (by decide +kernel) ?_
        exact g_iretF X hr (by first | exact hR24 _ _ | exact hR10 _ _ | exact hR2 _ _ | exact hR0 _ _ | assumption | (unfold InR; omega)) ⟨(by repeat (first | rw [if_pos (by omega)] | rw [if_neg (by omega)]); all_goals omega), rfl⟩ dX6_costOf_32
    · skip
      refine g_iconst X dX6_costOf_16 ?_
      exact g_iretF X hr (by first | exact hR10 _ _ | exact hR2 _ _ | exact hR0 _ _ | assumption | (unfold InR; omega)) ⟨(by repeat (first | rw [if_pos (by omega)] | rw [if_neg (by omega)]); all_goals omega), rfl⟩ dX6_costOf_17

set_option maxHeartbeats 4000000 in
set_option maxRecDepth 100000 in
theorem k_X6_type (E0 : EV) {ad : Int → Nat} {σ : St} {x1 : Int} (hC : CI σ)(hx1 : InR x1) : MGE E0 yX6_type wsX6_type 1 21 ad σ [.ref (ad 0), .int (iI x1)] (PF (if 32 ≤ x1 ∧ x1 ≤ 126 then (if σ 8 0 < 80 then σ 8 0 + 1 else -3) else -1) (if (32 ≤ x1 ∧ x1 ≤ 126) ∧ σ 8 0 < 80 then apT σ x1 else σ)) := by
  refine MGE.of (cc := cX6_type) (maxL := 2) (ret := (some .int)) (own := RX6) [some (.ref (ad 0)), some (.int (iI x1))] (by decide +kernel) rfl rfl (Nat.le_of_ble_eq_true rfl) rfl rfl (fun E X hr => ?_)
  have i5 : ∀ w ∈ wsX50, w ∈ wsX6_type := by decide +kernel
  have i6 : ∀ w ∈ wsX60, w ∈ wsX6_type := by decide +kernel
  refine g_rg (fun hR0 => ?_)
  have hT0 := hC.1 0 (by omega) (by omega)
  have hT5 := hC.1 5 (by omega) (by omega)
  have hm := hT0.1
  have hn := hT0.2.1
  have hl := hC.2.2.1
  refine g_iload1 X dX6_type_0 ?_
  refine g_bipush X dX6_type_1 (by decide +kernel) ?_
  refine g_icmp_lt (tgt := 12) X (by first | exact hR0 _ _ | assumption | (unfold InR; omega)) (by first | exact hR0 _ _ | assumption | (unfold InR; omega)) dX6_type_3 (by decide) (fun h3 => ?_) (fun h3 => ?_)
  · skip
    refine g_iconst X dX6_type_12 ?_
    exact g_iretF X hr (by first | exact hR0 _ _ | assumption | (unfold InR; omega)) ⟨(by repeat (first | rw [if_pos (by omega)] | rw [if_neg (by omega)]); all_goals omega), (by repeat (first | rw [if_pos (by omega)] | rw [if_neg (by omega)]); all_goals omega)⟩ dX6_type_13
  · skip
    refine g_iload1 X dX6_type_6 ?_
    refine g_bipush X dX6_type_7 (by decide +kernel) ?_
    refine g_icmp_le (tgt := 14) X (by first | exact hR0 _ _ | assumption | (unfold InR; omega)) (by first | exact hR0 _ _ | assumption | (unfold InR; omega)) dX6_type_9 (by decide) (fun h9 => ?_) (fun h9 => ?_)
    · skip
      refine g_aload0 X dX6_type_14 ?_
      refine gf_6_text X i6 (by decide +kernel) dX6_type_15 ?_
      refine gf_5_length X i5 (by decide +kernel) dX6_type_18 ?_
      refine g_bipush X dX6_type_21 (by decide +kernel) ?_
      refine g_icmp_lt (tgt := 29) X (by first | exact hR0 _ _ | assumption | (unfold InR; omega)) (by first | exact hR0 _ _ | assumption | (unfold InR; omega)) dX6_type_23 (by decide) (fun h23 => ?_) (fun h23 => ?_)
      · skip
        refine g_aload0 X dX6_type_29 ?_
        refine gf_6_text X i6 (by decide +kernel) dX6_type_30 ?_
        refine g_iload1 X dX6_type_33 ?_
        refine g_i2c X (by omega) dX6_type_34 ?_
        refine g_W1 X (k_X5_append E (by omega) (by omega)) gX6_type_X5_append rfl (by decide +kernel) (by decide) ob_8 (Nat.le_of_ble_eq_true rfl) dX6_type_35 ?_
        refine g_rg (fun hR35 => ?_)
        have ez : apT σ x1 8 0 = σ 8 0 + 1 := by unfold apT up; rw [if_pos ⟨rfl, rfl⟩]
        refine g_aload0 X dX6_type_38 ?_
        refine gf_6_text X i6 (by decide +kernel) dX6_type_39 ?_
        refine gf_5_length X i5 (by decide +kernel) dX6_type_42 ?_
        exact g_iretF X hr (by first | exact hR35 _ _ | exact hR0 _ _ | assumption | (unfold InR; omega)) ⟨(by repeat (first | rw [if_pos (by omega)] | rw [if_neg (by omega)]); all_goals omega), (by repeat (first | rw [if_pos (by omega)] | rw [if_neg (by omega)]); all_goals omega)⟩ dX6_type_45
      · skip
        refine g_bipush X dX6_type_26 (by decide +kernel) ?_
        exact g_iretF X hr (by first | exact hR0 _ _ | assumption | (unfold InR; omega)) ⟨(by repeat (first | rw [if_pos (by omega)] | rw [if_neg (by omega)]); all_goals omega), (by repeat (first | rw [if_pos (by omega)] | rw [if_neg (by omega)]); all_goals omega)⟩ dX6_type_28
    · skip
      refine g_iconst X dX6_type_12 ?_
      exact g_iretF X hr (by first | exact hR0 _ _ | assumption | (unfold InR; omega)) ⟨(by repeat (first | rw [if_pos (by omega)] | rw [if_neg (by omega)]); all_goals omega), (by repeat (first | rw [if_pos (by omega)] | rw [if_neg (by omega)]); all_goals omega)⟩ dX6_type_13

set_option maxHeartbeats 4000000 in
set_option maxRecDepth 100000 in
theorem k_X6_clearText (E0 : EV) {ad : Int → Nat} {σ : St} (hC : CI σ) : MGE E0 yX6_clearText wsX6_clearText 0 0 ad σ [.ref (ad 0)] (PF (σ 8 0) (up σ 8 0 0)) := by
  refine MGE.of (cc := cX6_clearText) (maxL := 2) (ret := (some .int)) (own := RX6) [some (.ref (ad 0)), none] (by decide +kernel) rfl rfl (Nat.le_of_ble_eq_true rfl) rfl rfl (fun E X hr => ?_)
  have i5 : ∀ w ∈ wsX50, w ∈ wsX6_clearText := by decide +kernel
  have i6 : ∀ w ∈ wsX60, w ∈ wsX6_clearText := by decide +kernel
  refine g_rg (fun hR0 => ?_)
  have hl := hC.2.2.1
  refine g_aload0 X dX6_clearText_0 ?_
  refine gf_6_text X i6 (by decide +kernel) dX6_clearText_1 ?_
  refine gf_5_length X i5 (by decide +kernel) dX6_clearText_4 ?_
  refine g_istore1 X dX6_clearText_7 (by decide) (by first | exact Or.inl rfl | exact Or.inr ⟨_, rfl, rfl⟩) ?_
  refine g_aload0 X dX6_clearText_8 ?_
  refine gf_6_text X i6 (by decide +kernel) dX6_clearText_9 ?_
  refine g_iconst X dX6_clearText_12 ?_
  refine gp_5_length X i5 (by decide +kernel) (by first | exact hR0 _ _ | assumption | (unfold InR; omega)) dX6_clearText_13 ?_
  refine g_rg (fun hR13 => ?_)
  refine g_iload1 X dX6_clearText_16 ?_
  exact g_iretF X hr (by first | exact hR13 _ _ | exact hR0 _ _ | assumption | (unfold InR; omega)) ⟨rfl, rfl⟩ dX6_clearText_17
