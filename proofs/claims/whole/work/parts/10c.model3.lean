/-! MY CONTRACTS: the reference, its changes -/
set_option maxHeartbeats 4000000 in
set_option maxRecDepth 100000 in
theorem k_X7_worker (E0 : EV) {ad : Int → Nat} {σ : St} {x1 : Int} (hM : MT (σ 80)) (hP : 0 ≤ σ 79 2 ∧ σ 79 2 ≤ 4) (hx1 : InR x1) : MGE E0 yX7_worker wsX7_worker 1 22 ad σ [.ref (ad 79), .int (iI x1)] (PF (if 0 ≤ x1 ∧ x1 ≤ 9999 then (if σ 80 0 < 7 then σ 80 0 else -3) else -1) (if (0 ≤ x1 ∧ x1 ≤ 9999) ∧ σ 80 0 < 7 then wkM σ x1 else σ)) := by
  refine MGE.of (cc := cX7_worker) (maxL := 4) (ret := (some .int)) (own := RX7) [some (.ref (ad 79)), some (.int (iI x1)), none, none] (by decide +kernel) rfl rfl (Nat.le_of_ble_eq_true rfl) rfl rfl (fun E X hr => ?_)
  have i7 : ∀ w ∈ wsX70, w ∈ wsX7_worker := by decide +kernel
  refine g_rg (fun hR0 => ?_)
  have hm := hM.1
  have hn := hM.2.1
  have hc := inB_01 x1 0 9999
  refine g_iload1 X dX7_worker_0 ?_
  refine g_iconst X dX7_worker_1 ?_
  refine g_sipush X dX7_worker_2 (by decide +kernel) ?_
  refine g_SF3 X (k_X7_in E (by first | assumption | (unfold InR; omega)) (by first | assumption | (unfold InR; omega)) (by first | assumption | (unfold InR; omega))) gX7_worker_X7_in rfl (by decide +kernel) (by decide) (Nat.le_of_ble_eq_true rfl) dX7_worker_5 (fun hz5 => ?_)
  refine g_rg (fun hR5 => ?_)
  refine g_if_ne (tgt := 13) X (by first | exact hR5 _ _ | exact hR0 _ _ | assumption | (unfold InR; omega)) dX7_worker_8 (by decide) (fun h8 => ?_) (fun h8 => ?_)
  · skip
    refine g_aload0 X dX7_worker_13 ?_
    refine gf_7_s X i7 (by decide +kernel) dX7_worker_14 ?_
    refine g_iconst X dX7_worker_17 ?_
    refine g_iald X (ia_80 (by omega)) dX7_worker_18 ?_
    refine g_istore2 X dX7_worker_19 (by decide) (by first | exact Or.inl rfl | exact Or.inr ⟨_, rfl, rfl⟩) ?_
    refine g_iload2 X dX7_worker_20 ?_
    refine g_bipush X dX7_worker_21 (by decide +kernel) ?_
    refine g_icmp_ne (tgt := 29) X (by first | exact hR5 _ _ | exact hR0 _ _ | assumption | (unfold InR; omega)) (by first | exact hR5 _ _ | exact hR0 _ _ | assumption | (unfold InR; omega)) dX7_worker_23 (by decide) (fun h23 => ?_) (fun h23 => ?_)
    · skip
      refine g_aload0 X dX7_worker_29 ?_
      refine g_W0 X (k_X7_changes E hP) gX7_worker_X7_changes rfl (by decide +kernel) (by decide) ob_79 (Nat.le_of_ble_eq_true rfl) dX7_worker_30 ?_
      refine g_rg (fun hR30 => ?_)
      have c80 := chg_80 σ
      have c8 : ∀ k, chg σ 80 k = σ 80 k := fun k => by rw [c80]
      refine g_aload0 X dX7_worker_33 ?_
      refine gf_7_s X i7 (by decide +kernel) dX7_worker_34 ?_
      refine g_iconst X dX7_worker_37 ?_
      refine g_iload2 X dX7_worker_38 ?_
      refine g_iadd X dX7_worker_39 ?_
      refine g_iload1 X dX7_worker_40 ?_
      refine g_iast X (ia_80 (by omega)) (by first | exact hR30 _ _ | exact hR5 _ _ | exact hR0 _ _ | assumption | (unfold InR; omega)) dX7_worker_41 ?_
      refine g_rg (fun hR41 => ?_)
      refine g_iconst X dX7_worker_42 ?_
      refine g_istore3 X dX7_worker_43 (by decide) (by first | exact Or.inl rfl | exact Or.inr ⟨_, rfl, rfl⟩) ?_
      have L44 : ∀ (n44 : Nat) (t : Int) (σ1 : St), (7 - t).toNat < n44 → (0 ≤ t ∧ t ≤ 7) → (σ1 = fl (up (chg σ) 80 (2 + σ 80 0) x1) (9 + 7 * σ 80 0) (9 + 7 * σ 80 0 + t) (-1)) → WG E ad 4 σ1 44 [some (.ref (ad 79)), some (.int (iI x1)), some (.int (iI (σ 80 0))), some (.int (iI t))] [] := by
        intro n44
        induction n44 with
        | zero => intro t σ1 hn; exact absurd hn (Nat.not_lt_zero _)
        | succ n44 ih44 =>
          intro t σ1 hn44 ht hσ
          refine g_rg (fun hRL44 => ?_)
          subst hσ
          refine g_iload3 X dX7_worker_44 ?_
          refine g_bipush X dX7_worker_45 (by decide +kernel) ?_
          refine g_icmp_ge (tgt := 71) X (by first | exact hRL44 _ _ | exact hR41 _ _ | exact hR30 _ _ | exact hR5 _ _ | exact hR0 _ _ | assumption | (unfold InR; omega)) (by first | exact hRL44 _ _ | exact hR41 _ _ | exact hR30 _ _ | exact hR5 _ _ | exact hR0 _ _ | assumption | (unfold InR; omega)) dX7_worker_47 (by decide) (fun h47 => ?_) (fun h47 => ?_)
          · skip
            have e7 : t = 7 := by omega
            subst e7
            have ez : fl (up (chg σ) 80 (2 + σ 80 0) x1) (9 + 7 * σ 80 0) (9 + 7 * σ 80 0 + 7) (-1) 80 0 = σ 80 0 := by unfold fl; rw [if_neg (by omega), up_o (by omega), c8]
            refine g_aload0 X dX7_worker_71 ?_
            refine gf_7_s X i7 (by decide +kernel) dX7_worker_72 ?_
            refine g_iconst X dX7_worker_75 ?_
            refine g_dup2 X dX7_worker_76 rfl rfl ?_
            refine g_iald X (ia_80 (by omega)) dX7_worker_77 ?_
            refine g_iconst X dX7_worker_78 ?_
            refine g_iadd X dX7_worker_79 ?_
            rw [ez]
            refine g_iast X (ia_80 (by omega)) (by first | exact hRL44 _ _ | exact hR41 _ _ | exact hR30 _ _ | exact hR5 _ _ | exact hR0 _ _ | assumption | (unfold InR; omega)) dX7_worker_80 ?_
            refine g_rg (fun hR80 => ?_)
            refine g_iload2 X dX7_worker_81 ?_
            exact g_iretF X hr (by first | exact hR80 _ _ | exact hRL44 _ _ | exact hR41 _ _ | exact hR30 _ _ | exact hR5 _ _ | exact hR0 _ _ | assumption | (unfold InR; omega)) ⟨(by repeat (first | rw [if_pos (by omega)] | rw [if_neg (by omega)]); all_goals omega), by first | (rw [if_neg (by omega)]; done) | (rw [if_pos (by omega)]; rfl)⟩ dX7_worker_82
          · skip
            refine g_aload0 X dX7_worker_50 ?_
            refine gf_7_s X i7 (by decide +kernel) dX7_worker_51 ?_
            refine g_bipush X dX7_worker_54 (by decide +kernel) ?_
            refine g_bipush X dX7_worker_56 (by decide +kernel) ?_
            refine g_iload2 X dX7_worker_58 ?_
            refine g_imul X dX7_worker_59 ?_
            refine g_iadd X dX7_worker_60 ?_
            refine g_iload3 X dX7_worker_61 ?_
            refine g_iadd X dX7_worker_62 ?_
            refine g_iconst X dX7_worker_63 ?_
            refine g_iast X (ia_80 (by omega)) (by first | exact hRL44 _ _ | exact hR41 _ _ | exact hR30 _ _ | exact hR5 _ _ | exact hR0 _ _ | assumption | (unfold InR; omega)) dX7_worker_64 ?_
            refine g_rg (fun hR64 => ?_)
            refine g_iinc3 X dX7_worker_65 (by decide) (by first | exact Or.inl rfl | exact Or.inr ⟨_, rfl, rfl⟩) ?_
            refine g_goto (tgt := 44) X dX7_worker_68 (by decide) ?_
            refine ih44 _ _ (by omega) ?_ ?_
            · omega
            · funext q j
              unfold up fl
              repeat' split
              all_goals first | rfl | omega | exact st_c (by omega) (by omega) | (exfalso; omega)
      refine L44 _ _ _ (Nat.lt_succ_self _) ?_ ?_
      · omega
      · funext q j
        unfold fl
        repeat' split
        all_goals first | rfl | omega | exact st_c (by omega) (by omega) | (exfalso; omega)
    · skip
      refine g_bipush X dX7_worker_26 (by decide +kernel) ?_
      exact g_iretF X hr (by first | exact hR5 _ _ | exact hR0 _ _ | assumption | (unfold InR; omega)) ⟨(by repeat (first | rw [if_pos (by omega)] | rw [if_neg (by omega)]); all_goals omega), by first | (rw [if_neg (by omega)]; done) | (rw [if_pos (by omega)]; rfl)⟩ dX7_worker_28
  · skip
    refine g_iconst X dX7_worker_11 ?_
    exact g_iretF X hr (by first | exact hR5 _ _ | exact hR0 _ _ | assumption | (unfold InR; omega)) ⟨(by repeat (first | rw [if_pos (by omega)] | rw [if_neg (by omega)]); all_goals omega), by first | (rw [if_neg (by omega)]; done) | (rw [if_pos (by omega)]; rfl)⟩ dX7_worker_12

set_option maxHeartbeats 4000000 in
set_option maxRecDepth 100000 in
theorem k_X7_task (E0 : EV) {ad : Int → Nat} {σ : St} (hM : MT (σ 80)) (hP : 0 ≤ σ 79 2 ∧ σ 79 2 ≤ 4) : MGE E0 yX7_task wsX7_task 1 21 ad σ [.ref (ad 79)] (PF (if σ 80 1 < 7 then σ 80 1 else -3) (if σ 80 1 < 7 then tsM σ else σ)) := by
  refine MGE.of (cc := cX7_task) (maxL := 3) (ret := (some .int)) (own := RX7) [some (.ref (ad 79)), none, none] (by decide +kernel) rfl rfl (Nat.le_of_ble_eq_true rfl) rfl rfl (fun E X hr => ?_)
  have i7 : ∀ w ∈ wsX70, w ∈ wsX7_task := by decide +kernel
  refine g_rg (fun hR0 => ?_)
  have hm := hM.1
  have hn := hM.2.1
  refine g_aload0 X dX7_task_0 ?_
  refine gf_7_s X i7 (by decide +kernel) dX7_task_1 ?_
  refine g_iconst X dX7_task_4 ?_
  refine g_iald X (ia_80 (by omega)) dX7_task_5 ?_
  refine g_istore1 X dX7_task_6 (by decide) (by first | exact Or.inl rfl | exact Or.inr ⟨_, rfl, rfl⟩) ?_
  refine g_iload1 X dX7_task_7 ?_
  refine g_bipush X dX7_task_8 (by decide +kernel) ?_
  refine g_icmp_ne (tgt := 16) X (by first | exact hR0 _ _ | assumption | (unfold InR; omega)) (by first | exact hR0 _ _ | assumption | (unfold InR; omega)) dX7_task_10 (by decide) (fun h10 => ?_) (fun h10 => ?_)
  · skip
    refine g_aload0 X dX7_task_16 ?_
    refine g_W0 X (k_X7_changes E hP) gX7_task_X7_changes rfl (by decide +kernel) (by decide) ob_79 (Nat.le_of_ble_eq_true rfl) dX7_task_17 ?_
    refine g_rg (fun hR17 => ?_)
    have c80 := chg_80 σ
    have c8 : ∀ k, chg σ 80 k = σ 80 k := fun k => by rw [c80]
    refine g_iconst X dX7_task_20 ?_
    refine g_istore2 X dX7_task_21 (by decide) (by first | exact Or.inl rfl | exact Or.inr ⟨_, rfl, rfl⟩) ?_
    have L22 : ∀ (n22 : Nat) (w : Int) (σ1 : St), (7 - w).toNat < n22 → (0 ≤ w ∧ w ≤ 7) → (σ1 = flc (chg σ) (σ 80 1) w) → WG E ad 3 σ1 22 [some (.ref (ad 79)), some (.int (iI (σ 80 1))), some (.int (iI w))] [] := by
      intro n22
      induction n22 with
      | zero => intro w σ1 hn; exact absurd hn (Nat.not_lt_zero _)
      | succ n22 ih22 =>
        intro w σ1 hn22 hw hσ
        refine g_rg (fun hRL22 => ?_)
        subst hσ
        refine g_iload2 X dX7_task_22 ?_
        refine g_bipush X dX7_task_23 (by decide +kernel) ?_
        refine g_icmp_ge (tgt := 49) X (by first | exact hRL22 _ _ | exact hR17 _ _ | exact hR0 _ _ | assumption | (unfold InR; omega)) (by first | exact hRL22 _ _ | exact hR17 _ _ | exact hR0 _ _ | assumption | (unfold InR; omega)) dX7_task_25 (by decide) (fun h25 => ?_) (fun h25 => ?_)
        · skip
          have e7 : w = 7 := by omega
          subst e7
          have ez : flc (chg σ) (σ 80 1) 7 80 1 = σ 80 1 := by unfold flc; rw [if_neg (by omega), c8]
          refine g_aload0 X dX7_task_49 ?_
          refine gf_7_s X i7 (by decide +kernel) dX7_task_50 ?_
          refine g_iconst X dX7_task_53 ?_
          refine g_dup2 X dX7_task_54 rfl rfl ?_
          refine g_iald X (ia_80 (by omega)) dX7_task_55 ?_
          refine g_iconst X dX7_task_56 ?_
          refine g_iadd X dX7_task_57 ?_
          rw [ez]
          refine g_iast X (ia_80 (by omega)) (by first | exact hRL22 _ _ | exact hR17 _ _ | exact hR0 _ _ | assumption | (unfold InR; omega)) dX7_task_58 ?_
          refine g_rg (fun hR58 => ?_)
          refine g_iload1 X dX7_task_59 ?_
          exact g_iretF X hr (by first | exact hR58 _ _ | exact hRL22 _ _ | exact hR17 _ _ | exact hR0 _ _ | assumption | (unfold InR; omega)) ⟨(by repeat (first | rw [if_pos (by omega)] | rw [if_neg (by omega)]); all_goals omega), by first | (rw [if_neg (by omega)]; done) | (rw [if_pos (by omega)]; rfl)⟩ dX7_task_60
        · skip
          refine g_aload0 X dX7_task_28 ?_
          refine gf_7_s X i7 (by decide +kernel) dX7_task_29 ?_
          refine g_bipush X dX7_task_32 (by decide +kernel) ?_
          refine g_bipush X dX7_task_34 (by decide +kernel) ?_
          refine g_iload2 X dX7_task_36 ?_
          refine g_imul X dX7_task_37 ?_
          refine g_iadd X dX7_task_38 ?_
          refine g_iload1 X dX7_task_39 ?_
          refine g_iadd X dX7_task_40 ?_
          refine g_iconst X dX7_task_41 ?_
          refine g_iast X (ia_80 (by omega)) (by first | exact hRL22 _ _ | exact hR17 _ _ | exact hR0 _ _ | assumption | (unfold InR; omega)) dX7_task_42 ?_
          refine g_rg (fun hR42 => ?_)
          refine g_iinc2 X dX7_task_43 (by decide) (by first | exact Or.inl rfl | exact Or.inr ⟨_, rfl, rfl⟩) ?_
          refine g_goto (tgt := 22) X dX7_task_46 (by decide) ?_
          refine ih22 _ _ (by omega) ?_ ?_
          · omega
          · funext q j
            unfold up flc
            repeat' split
            all_goals first | rfl | omega | exact st_c (by omega) (by omega) | (exfalso; omega)
    refine L22 _ _ _ (Nat.lt_succ_self _) ?_ ?_
    · omega
    · funext q j
      unfold flc
      repeat' split
      all_goals first | rfl | omega | exact st_c (by omega) (by omega) | (exfalso; omega)
  · skip
    refine g_bipush X dX7_task_13 (by decide +kernel) ?_
    exact g_iretF X hr (by first | exact hR0 _ _ | assumption | (unfold InR; omega)) ⟨(by repeat (first | rw [if_pos (by omega)] | rw [if_neg (by omega)]); all_goals omega), by first | (rw [if_neg (by omega)]; done) | (rw [if_pos (by omega)]; rfl)⟩ dX7_task_15

set_option maxHeartbeats 4000000 in
set_option maxRecDepth 100000 in
theorem k_X7_dropWorker (E0 : EV) {ad : Int → Nat} {σ : St} {x1 : Int} (hM : MT (σ 80)) (hP : 0 ≤ σ 79 2 ∧ σ 79 2 ≤ 4) (hx1 : InR x1) : MGE E0 yX7_dropWorker wsX7_dropWorker 1 22 ad σ [.ref (ad 79), .int (iI x1)] (PF (if 0 ≤ x1 ∧ x1 < σ 80 0 then σ 80 0 - 1 else -1) (if 0 ≤ x1 ∧ x1 < σ 80 0 then dwM σ x1 else σ)) := by
  refine MGE.of (cc := cX7_dropWorker) (maxL := 4) (ret := (some .int)) (own := RX7) [some (.ref (ad 79)), some (.int (iI x1)), none, none] (by decide +kernel) rfl rfl (Nat.le_of_ble_eq_true rfl) rfl rfl (fun E X hr => ?_)
  have i7 : ∀ w ∈ wsX70, w ∈ wsX7_dropWorker := by decide +kernel
  refine g_rg (fun hR0 => ?_)
  have hm := hM.1
  have hn := hM.2.1
  have hw := mW_01 σ x1
  refine g_aload0 X dX7_dropWorker_0 ?_
  refine g_iload1 X dX7_dropWorker_1 ?_
  refine g_F1 X (k_X7_isWorker E hM hx1) gX7_dropWorker_X7_isWorker rfl (by decide +kernel) (by decide) ob_79 (Nat.le_of_ble_eq_true rfl) dX7_dropWorker_2 (fun hz2 => ?_)
  refine g_rg (fun hR2 => ?_)
  refine g_if_ne (tgt := 10) X (by first | exact hR2 _ _ | exact hR0 _ _ | assumption | (unfold InR; omega)) dX7_dropWorker_5 (by decide) (fun h5 => ?_) (fun h5 => ?_)
  · skip
    refine g_aload0 X dX7_dropWorker_10 ?_
    refine g_W0 X (k_X7_changes E hP) gX7_dropWorker_X7_changes rfl (by decide +kernel) (by decide) ob_79 (Nat.le_of_ble_eq_true rfl) dX7_dropWorker_11 ?_
    refine g_rg (fun hR11 => ?_)
    have c80 := chg_80 σ
    have c8 : ∀ k, chg σ 80 k = σ 80 k := fun k => by rw [c80]
    refine g_aload0 X dX7_dropWorker_14 ?_
    refine gf_7_s X i7 (by decide +kernel) dX7_dropWorker_15 ?_
    refine g_iconst X dX7_dropWorker_18 ?_
    refine g_dup2 X dX7_dropWorker_19 rfl rfl ?_
    refine g_iald X (ia_80 (by omega)) dX7_dropWorker_20 ?_
    refine g_iconst X dX7_dropWorker_21 ?_
    refine g_isub X dX7_dropWorker_22 ?_
    rw [c8]
    refine g_iast X (ia_80 (by omega)) (by first | exact hR11 _ _ | exact hR2 _ _ | exact hR0 _ _ | assumption | (unfold InR; omega)) dX7_dropWorker_23 ?_
    refine g_rg (fun hR23 => ?_)
    obtain ⟨σb, hb⟩ : ∃ s : St, s = (up (chg σ) 80 0 (σ 80 0 - 1)) := ⟨_, rfl⟩
    rw [← hb]
    have b0 : σb 80 0 = σ 80 0 - 1 := by rw [hb, up_e]
    have b1 : ∀ q k, ¬ (q = 80 ∧ k = 0) → σb q k = chg σ q k := fun q k h => by rw [hb, up_o h]
    refine g_iload1 X dX7_dropWorker_24 ?_
    refine g_istore2 X dX7_dropWorker_25 (by decide) (by first | exact Or.inl rfl | exact Or.inr ⟨_, rfl, rfl⟩) ?_
    have L26 : ∀ (n26 : Nat) (w : Int) (σ1 : St) (u : Option Value), (σ 80 0 - w).toNat < n26 → (x1 ≤ w ∧ w ≤ σ 80 0 - 1) → (σ1 = drw σb x1 w w 0) → WG E ad 4 σ1 26 [some (.ref (ad 79)), some (.int (iI x1)), some (.int (iI w)), u] [] := by
      intro n26
      induction n26 with
      | zero => intro w σ1 u hn; exact absurd hn (Nat.not_lt_zero _)
      | succ n26 ih26 =>
        intro w σ1 u hn26 hw1 hσ
        refine g_rg (fun hRL26 => ?_)
        subst hσ
        have e0 : drw σb x1 w w 0 80 0 = σ 80 0 - 1 := by unfold drw; rw [if_neg (by omega), if_neg (by omega), b0]
        refine g_iload2 X dX7_dropWorker_26 ?_
        refine g_aload0 X dX7_dropWorker_27 ?_
        refine gf_7_s X i7 (by decide +kernel) dX7_dropWorker_28 ?_
        refine g_iconst X dX7_dropWorker_31 ?_
        refine g_iald X (ia_80 (by omega)) dX7_dropWorker_32 ?_
        refine g_icmp_ge (tgt := 96) X (by first | exact hRL26 _ _ | exact hR23 _ _ | exact hR11 _ _ | exact hR2 _ _ | exact hR0 _ _ | assumption | (unfold InR; omega)) (by first | exact hRL26 _ _ | exact hR23 _ _ | exact hR11 _ _ | exact hR2 _ _ | exact hR0 _ _ | assumption | (unfold InR; omega)) dX7_dropWorker_33 (by decide) (fun h33 => ?_) (fun h33 => ?_)
        · skip
          refine g_aload0 X dX7_dropWorker_96 ?_
          refine gf_7_s X i7 (by decide +kernel) dX7_dropWorker_97 ?_
          refine g_iconst X dX7_dropWorker_100 ?_
          refine g_iald X (ia_80 (by omega)) dX7_dropWorker_101 ?_
          exact g_iretF X hr (by first | exact hRL26 _ _ | exact hR23 _ _ | exact hR11 _ _ | exact hR2 _ _ | exact hR0 _ _ | assumption | (unfold InR; omega)) ⟨by rw [if_pos (by omega), e0], by rw [if_pos (by omega), show w = σ 80 0 - 1 by omega, hb]; rfl⟩ dX7_dropWorker_102
        · skip
          refine g_aload0 X dX7_dropWorker_36 ?_
          refine gf_7_s X i7 (by decide +kernel) dX7_dropWorker_37 ?_
          refine g_iconst X dX7_dropWorker_40 ?_
          refine g_iload2 X dX7_dropWorker_41 ?_
          refine g_iadd X dX7_dropWorker_42 ?_
          refine g_aload0 X dX7_dropWorker_43 ?_
          refine gf_7_s X i7 (by decide +kernel) dX7_dropWorker_44 ?_
          refine g_iconst X dX7_dropWorker_47 ?_
          refine g_iload2 X dX7_dropWorker_48 ?_
          refine g_iadd X dX7_dropWorker_49 ?_
          refine g_iconst X dX7_dropWorker_50 ?_
          refine g_iadd X dX7_dropWorker_51 ?_
          refine g_iald X (ia_80 (by omega)) dX7_dropWorker_52 ?_
          refine g_iast X (ia_80 (by omega)) (by first | exact hRL26 _ _ | exact hR23 _ _ | exact hR11 _ _ | exact hR2 _ _ | exact hR0 _ _ | assumption | (unfold InR; omega)) dX7_dropWorker_53 ?_
          refine g_rg (fun hR53 => ?_)
          refine g_iconst X dX7_dropWorker_54 ?_
          refine g_istore3 X dX7_dropWorker_55 (by decide) (by first | exact Or.inl rfl | exact Or.inr ⟨_, rfl, rfl⟩) ?_
          have L56 : ∀ (n56 : Nat) (t : Int) (σ2 : St), (7 - t).toNat < n56 → (0 ≤ t ∧ t ≤ 7) → (σ2 = drw σb x1 (w + 1) w t) → WG E ad 4 σ2 56 [some (.ref (ad 79)), some (.int (iI x1)), some (.int (iI w)), some (.int (iI t))] [] := by
            intro n56
            induction n56 with
            | zero => intro t σ2 hn; exact absurd hn (Nat.not_lt_zero _)
            | succ n56 ih56 =>
              intro t σ2 hn56 ht hτ
              refine g_rg (fun hRL56 => ?_)
              subst hτ
              refine g_iload3 X dX7_dropWorker_56 ?_
              refine g_bipush X dX7_dropWorker_57 (by decide +kernel) ?_
              refine g_icmp_ge (tgt := 90) X (by first | exact hRL56 _ _ | exact hR53 _ _ | exact hRL26 _ _ | exact hR23 _ _ | exact hR11 _ _ | exact hR2 _ _ | exact hR0 _ _ | assumption | (unfold InR; omega)) (by first | exact hRL56 _ _ | exact hR53 _ _ | exact hRL26 _ _ | exact hR23 _ _ | exact hR11 _ _ | exact hR2 _ _ | exact hR0 _ _ | assumption | (unfold InR; omega)) dX7_dropWorker_59 (by decide) (fun h59 => ?_) (fun h59 => ?_)
              · skip
                refine g_iinc2 X dX7_dropWorker_90 (by decide) (by first | exact Or.inl rfl | exact Or.inr ⟨_, rfl, rfl⟩) ?_
                refine g_goto (tgt := 26) X dX7_dropWorker_93 (by decide) ?_
                refine ih26 _ _ _ (by omega) ?_ ?_
                · omega
                · rw [show t = 7 by omega]
                  funext q j
                  unfold drw
                  repeat' split
                  all_goals first | rfl | omega | exact st_c (by omega) (by omega) | (exfalso; omega)
              · skip
                refine g_aload0 X dX7_dropWorker_62 ?_
                refine gf_7_s X i7 (by decide +kernel) dX7_dropWorker_63 ?_
                refine g_bipush X dX7_dropWorker_66 (by decide +kernel) ?_
                refine g_bipush X dX7_dropWorker_68 (by decide +kernel) ?_
                refine g_iload2 X dX7_dropWorker_70 ?_
                refine g_imul X dX7_dropWorker_71 ?_
                refine g_iadd X dX7_dropWorker_72 ?_
                refine g_iload3 X dX7_dropWorker_73 ?_
                refine g_iadd X dX7_dropWorker_74 ?_
                refine g_aload0 X dX7_dropWorker_75 ?_
                refine g_iload2 X dX7_dropWorker_76 ?_
                refine g_iconst X dX7_dropWorker_77 ?_
                refine g_iadd X dX7_dropWorker_78 ?_
                refine g_iload3 X dX7_dropWorker_79 ?_
                refine g_F2 X (k_X7_of E (by omega) (by omega)) gX7_dropWorker_X7_of rfl (by decide +kernel) (by decide) ob_79 (Nat.le_of_ble_eq_true rfl) dX7_dropWorker_80 (fun hz80 => ?_)
                refine g_rg (fun hR80 => ?_)
                refine g_iast X (ia_80 (by omega)) (by first | exact hR80 _ _ | exact hRL56 _ _ | exact hR53 _ _ | exact hRL26 _ _ | exact hR23 _ _ | exact hR11 _ _ | exact hR2 _ _ | exact hR0 _ _ | assumption | (unfold InR; omega)) dX7_dropWorker_83 ?_
                refine g_rg (fun hR83 => ?_)
                refine g_iinc3 X dX7_dropWorker_84 (by decide) (by first | exact Or.inl rfl | exact Or.inr ⟨_, rfl, rfl⟩) ?_
                refine g_goto (tgt := 56) X dX7_dropWorker_87 (by decide) ?_
                refine ih56 _ _ (by omega) ?_ ?_
                · omega
                · funext q j
                  unfold up cM drw
                  repeat' split
                  all_goals first | rfl | omega | exact st_c (by omega) (by omega) | (exfalso; omega)
          refine L56 _ _ _ (Nat.lt_succ_self _) ?_ ?_
          · omega
          · funext q j
            unfold up drw
            repeat' split
            all_goals first | rfl | omega | exact st_c (by omega) (by omega) | (exfalso; omega)
    refine L26 _ _ _ _ (Nat.lt_succ_self _) ?_ ?_
    · omega
    · funext q j
      unfold drw
      repeat' split
      all_goals first | rfl | omega | exact st_c (by omega) (by omega) | (exfalso; omega)
  · skip
    refine g_iconst X dX7_dropWorker_8 ?_
    exact g_iretF X hr (by first | exact hR2 _ _ | exact hR0 _ _ | assumption | (unfold InR; omega)) ⟨(by repeat (first | rw [if_pos (by omega)] | rw [if_neg (by omega)]); all_goals omega), (by repeat (first | rw [if_pos (by omega)] | rw [if_neg (by omega)]); all_goals omega)⟩ dX7_dropWorker_9

set_option maxHeartbeats 4000000 in
set_option maxRecDepth 100000 in
theorem k_X7_dropTask (E0 : EV) {ad : Int → Nat} {σ : St} {x1 : Int} (hM : MT (σ 80)) (hP : 0 ≤ σ 79 2 ∧ σ 79 2 ≤ 4) (hx1 : InR x1) : MGE E0 yX7_dropTask wsX7_dropTask 1 22 ad σ [.ref (ad 79), .int (iI x1)] (PF (if 0 ≤ x1 ∧ x1 < σ 80 1 then σ 80 1 - 1 else -1) (if 0 ≤ x1 ∧ x1 < σ 80 1 then dtM σ x1 else σ)) := by
  refine MGE.of (cc := cX7_dropTask) (maxL := 4) (ret := (some .int)) (own := RX7) [some (.ref (ad 79)), some (.int (iI x1)), none, none] (by decide +kernel) rfl rfl (Nat.le_of_ble_eq_true rfl) rfl rfl (fun E X hr => ?_)
  have i7 : ∀ w ∈ wsX70, w ∈ wsX7_dropTask := by decide +kernel
  refine g_rg (fun hR0 => ?_)
  have hm := hM.1
  have hn := hM.2.1
  have hw := mK_01 σ x1
  refine g_aload0 X dX7_dropTask_0 ?_
  refine g_iload1 X dX7_dropTask_1 ?_
  refine g_F1 X (k_X7_isTask E hM hx1) gX7_dropTask_X7_isTask rfl (by decide +kernel) (by decide) ob_79 (Nat.le_of_ble_eq_true rfl) dX7_dropTask_2 (fun hz2 => ?_)
  refine g_rg (fun hR2 => ?_)
  refine g_if_ne (tgt := 10) X (by first | exact hR2 _ _ | exact hR0 _ _ | assumption | (unfold InR; omega)) dX7_dropTask_5 (by decide) (fun h5 => ?_) (fun h5 => ?_)
  · skip
    refine g_aload0 X dX7_dropTask_10 ?_
    refine g_W0 X (k_X7_changes E hP) gX7_dropTask_X7_changes rfl (by decide +kernel) (by decide) ob_79 (Nat.le_of_ble_eq_true rfl) dX7_dropTask_11 ?_
    refine g_rg (fun hR11 => ?_)
    have c80 := chg_80 σ
    have c8 : ∀ k, chg σ 80 k = σ 80 k := fun k => by rw [c80]
    refine g_aload0 X dX7_dropTask_14 ?_
    refine gf_7_s X i7 (by decide +kernel) dX7_dropTask_15 ?_
    refine g_iconst X dX7_dropTask_18 ?_
    refine g_dup2 X dX7_dropTask_19 rfl rfl ?_
    refine g_iald X (ia_80 (by omega)) dX7_dropTask_20 ?_
    refine g_iconst X dX7_dropTask_21 ?_
    refine g_isub X dX7_dropTask_22 ?_
    rw [c8]
    refine g_iast X (ia_80 (by omega)) (by first | exact hR11 _ _ | exact hR2 _ _ | exact hR0 _ _ | assumption | (unfold InR; omega)) dX7_dropTask_23 ?_
    refine g_rg (fun hR23 => ?_)
    obtain ⟨σb, hb⟩ : ∃ s : St, s = (up (chg σ) 80 1 (σ 80 1 - 1)) := ⟨_, rfl⟩
    rw [← hb]
    have b0 : σb 80 1 = σ 80 1 - 1 := by rw [hb, up_e]
    have b1 : ∀ q k, ¬ (q = 80 ∧ k = 1) → σb q k = chg σ q k := fun q k h => by rw [hb, up_o h]
    refine g_iconst X dX7_dropTask_24 ?_
    refine g_istore2 X dX7_dropTask_25 (by decide) (by first | exact Or.inl rfl | exact Or.inr ⟨_, rfl, rfl⟩) ?_
    have L26 : ∀ (n26 : Nat) (w : Int) (σ1 : St) (u : Option Value), (σ 80 0 - w).toNat < n26 → (0 ≤ w ∧ w ≤ σ 80 0) → (σ1 = drt σb x1 (σ 80 1 - 1) w 0) → WG E ad 4 σ1 26 [some (.ref (ad 79)), some (.int (iI x1)), some (.int (iI w)), u] [] := by
      intro n26
      induction n26 with
      | zero => intro w σ1 u hn; exact absurd hn (Nat.not_lt_zero _)
      | succ n26 ih26 =>
        intro w σ1 u hn26 hw1 hσ
        refine g_rg (fun hRL26 => ?_)
        subst hσ
        have e0 : drt σb x1 (σ 80 1 - 1) w 0 80 0 = σ 80 0 := by unfold drt; rw [if_neg (by omega), b1 _ _ (by omega), c8]
        have e1 : drt σb x1 (σ 80 1 - 1) w 0 80 1 = σ 80 1 - 1 := by unfold drt; rw [if_neg (by omega), b0]
        refine g_iload2 X dX7_dropTask_26 ?_
        refine g_aload0 X dX7_dropTask_27 ?_
        refine gf_7_s X i7 (by decide +kernel) dX7_dropTask_28 ?_
        refine g_iconst X dX7_dropTask_31 ?_
        refine g_iald X (ia_80 (by omega)) dX7_dropTask_32 ?_
        refine g_icmp_ge (tgt := 82) X (by first | exact hRL26 _ _ | exact hR23 _ _ | exact hR11 _ _ | exact hR2 _ _ | exact hR0 _ _ | assumption | (unfold InR; omega)) (by first | exact hRL26 _ _ | exact hR23 _ _ | exact hR11 _ _ | exact hR2 _ _ | exact hR0 _ _ | assumption | (unfold InR; omega)) dX7_dropTask_33 (by decide) (fun h33 => ?_) (fun h33 => ?_)
        · skip
          refine g_aload0 X dX7_dropTask_82 ?_
          refine gf_7_s X i7 (by decide +kernel) dX7_dropTask_83 ?_
          refine g_iconst X dX7_dropTask_86 ?_
          refine g_iald X (ia_80 (by omega)) dX7_dropTask_87 ?_
          exact g_iretF X hr (by first | exact hRL26 _ _ | exact hR23 _ _ | exact hR11 _ _ | exact hR2 _ _ | exact hR0 _ _ | assumption | (unfold InR; omega)) ⟨by rw [if_pos (by omega), e1], by rw [if_pos (by omega), show w = σ 80 0 by omega, hb]; rfl⟩ dX7_dropTask_88
        · skip
          refine g_iload1 X dX7_dropTask_36 ?_
          refine g_istore3 X dX7_dropTask_37 (by decide) (by first | exact Or.inl rfl | exact Or.inr ⟨_, rfl, rfl⟩) ?_
          have L38 : ∀ (n38 : Nat) (t : Int) (σ2 : St), (7 - t).toNat < n38 → (x1 ≤ t ∧ t ≤ σ 80 1 - 1) → (σ2 = drt σb x1 (σ 80 1 - 1) w t) → WG E ad 4 σ2 38 [some (.ref (ad 79)), some (.int (iI x1)), some (.int (iI w)), some (.int (iI t))] [] := by
            intro n38
            induction n38 with
            | zero => intro t σ2 hn; exact absurd hn (Nat.not_lt_zero _)
            | succ n38 ih38 =>
              intro t σ2 hn38 ht hτ
              refine g_rg (fun hRL38 => ?_)
              subst hτ
              have e2 : drt σb x1 (σ 80 1 - 1) w t 80 1 = σ 80 1 - 1 := by unfold drt; rw [if_neg (by omega), b0]
              refine g_iload3 X dX7_dropTask_38 ?_
              refine g_aload0 X dX7_dropTask_39 ?_
              refine gf_7_s X i7 (by decide +kernel) dX7_dropTask_40 ?_
              refine g_iconst X dX7_dropTask_43 ?_
              refine g_iald X (ia_80 (by omega)) dX7_dropTask_44 ?_
              refine g_icmp_ge (tgt := 76) X (by first | exact hRL38 _ _ | exact hRL26 _ _ | exact hR23 _ _ | exact hR11 _ _ | exact hR2 _ _ | exact hR0 _ _ | assumption | (unfold InR; omega)) (by first | exact hRL38 _ _ | exact hRL26 _ _ | exact hR23 _ _ | exact hR11 _ _ | exact hR2 _ _ | exact hR0 _ _ | assumption | (unfold InR; omega)) dX7_dropTask_45 (by decide) (fun h45 => ?_) (fun h45 => ?_)
              · skip
                refine g_iinc2 X dX7_dropTask_76 (by decide) (by first | exact Or.inl rfl | exact Or.inr ⟨_, rfl, rfl⟩) ?_
                refine g_goto (tgt := 26) X dX7_dropTask_79 (by decide) ?_
                refine ih26 _ _ _ (by omega) ?_ ?_
                · omega
                · funext q j
                  unfold drt
                  repeat' split
                  all_goals first | rfl | omega | exact st_c (by omega) (by omega) | (exfalso; omega)
              · skip
                refine g_aload0 X dX7_dropTask_48 ?_
                refine gf_7_s X i7 (by decide +kernel) dX7_dropTask_49 ?_
                refine g_bipush X dX7_dropTask_52 (by decide +kernel) ?_
                refine g_bipush X dX7_dropTask_54 (by decide +kernel) ?_
                refine g_iload2 X dX7_dropTask_56 ?_
                refine g_imul X dX7_dropTask_57 ?_
                refine g_iadd X dX7_dropTask_58 ?_
                refine g_iload3 X dX7_dropTask_59 ?_
                refine g_iadd X dX7_dropTask_60 ?_
                refine g_aload0 X dX7_dropTask_61 ?_
                refine g_iload2 X dX7_dropTask_62 ?_
                refine g_iload3 X dX7_dropTask_63 ?_
                refine g_iconst X dX7_dropTask_64 ?_
                refine g_iadd X dX7_dropTask_65 ?_
                refine g_F2 X (k_X7_of E (by omega) (by omega)) gX7_dropTask_X7_of rfl (by decide +kernel) (by decide) ob_79 (Nat.le_of_ble_eq_true rfl) dX7_dropTask_66 (fun hz66 => ?_)
                refine g_rg (fun hR66 => ?_)
                refine g_iast X (ia_80 (by omega)) (by first | exact hR66 _ _ | exact hRL38 _ _ | exact hRL26 _ _ | exact hR23 _ _ | exact hR11 _ _ | exact hR2 _ _ | exact hR0 _ _ | assumption | (unfold InR; omega)) dX7_dropTask_69 ?_
                refine g_rg (fun hR69 => ?_)
                refine g_iinc3 X dX7_dropTask_70 (by decide) (by first | exact Or.inl rfl | exact Or.inr ⟨_, rfl, rfl⟩) ?_
                refine g_goto (tgt := 38) X dX7_dropTask_73 (by decide) ?_
                refine ih38 _ _ (by omega) ?_ ?_
                · omega
                · funext q j
                  unfold up cM drt
                  repeat' split
                  all_goals first | rfl | omega | exact st_c (by omega) (by omega) | (exfalso; omega)
          refine L38 _ _ _ (Nat.lt_succ_self _) ?_ ?_
          · omega
          · funext q j
            unfold drt
            repeat' split
            all_goals first | rfl | omega | exact st_c (by omega) (by omega) | (exfalso; omega)
    refine L26 _ _ _ _ (Nat.lt_succ_self _) ?_ ?_
    · omega
    · funext q j
      unfold drt
      repeat' split
      all_goals first | rfl | omega | exact st_c (by omega) (by omega) | (exfalso; omega)
  · skip
    refine g_iconst X dX7_dropTask_8 ?_
    exact g_iretF X hr (by first | exact hR2 _ _ | exact hR0 _ _ | assumption | (unfold InR; omega)) ⟨(by repeat (first | rw [if_pos (by omega)] | rw [if_neg (by omega)]); all_goals omega), (by repeat (first | rw [if_pos (by omega)] | rw [if_neg (by omega)]); all_goals omega)⟩ dX7_dropTask_9

theorem MT.pr {σ : St} (hM : MT (σ 80)) {w t c : Int} (hc : -1 ≤ c ∧ c ≤ 9999) (hw : 0 ≤ w ∧ w < 7) (ht : 0 ≤ t ∧ t < 7) : MT (prM σ w t c 80) := by
  obtain ⟨h0, h1, h2, h3⟩ := hM
  have e : ∀ k, k ≠ 9 + 7 * w + t → prM σ w t c 80 k = σ 80 k := fun k h => by unfold prM; rw [up_o (by omega), chg_80]
  refine ⟨by rw [e 0 (by omega)]; exact h0, by rw [e 1 (by omega)]; exact h1, fun k a b => by rw [e _ (by omega)]; exact h2 k a b, fun v u a b c1 d => ?_⟩
  by_cases hk : 9 + 7 * v + u = 9 + 7 * w + t
  · rw [hk]; unfold prM; rw [up_e]; exact hc
  · rw [e _ hk]; exact h3 v u a b c1 d
theorem F83.put {σ σ' : St} (h : F83 σ σ') (q k v : Int) : F83 (up σ q k v) (up σ' q k v) := by
  intro a b c
  unfold up
  by_cases e : a = q ∧ b = k
  · rw [if_pos e, if_pos e]
  · rw [if_neg e, if_neg e]; exact h a b c
set_option maxHeartbeats 4000000 in
set_option maxRecDepth 100000 in
theorem k_X7_cost (E0 : EV) {ad : Int → Nat} {σ : St} {x1 x2 x3 : Int} (hM : MT (σ 80)) (hP : 0 ≤ σ 79 2 ∧ σ 79 2 ≤ 4) (hx1 : InR x1) (hx2 : InR x2) (hx3 : InR x3) : MGE E0 yX7_cost wsX7_cost 4 92 ad σ [.ref (ad 79), .int (iI x1), .int (iI x2), .int (iI x3)] (PI (fun z σ' => z = (if (0 ≤ x1 ∧ x1 < σ 80 0) ∧ (0 ≤ x2 ∧ x2 < σ 80 1) ∧ 0 ≤ x3 ∧ x3 ≤ 9999 then totM (prM σ x1 x2 x3) - totM σ + 100000 else -1) ∧ F83 (if (0 ≤ x1 ∧ x1 < σ 80 0) ∧ (0 ≤ x2 ∧ x2 < σ 80 1) ∧ 0 ≤ x3 ∧ x3 ≤ 9999 then prM σ x1 x2 x3 else σ) σ')) := by
  refine MGE.of (cc := cX7_cost) (maxL := 5) (ret := (some .int)) (own := RX7) [some (.ref (ad 79)), some (.int (iI x1)), some (.int (iI x2)), some (.int (iI x3)), none] (by decide +kernel) rfl rfl (Nat.le_of_ble_eq_true rfl) rfl rfl (fun E X hr => ?_)
  have i7 : ∀ w ∈ wsX70, w ∈ wsX7_cost := by decide +kernel
  refine g_rg (fun hR0 => ?_)
  have hm := hM.1
  have hn := hM.2.1
  have hw := mW_01 σ x1
  have hk := mK_01 σ x2
  have hc := inB_01 x3 0 9999
  refine g_aload0 X dX7_cost_0 ?_
  refine g_iload1 X dX7_cost_1 ?_
  refine g_F1 X (k_X7_isWorker E hM hx1) gX7_cost_X7_isWorker rfl (by decide +kernel) (by decide) ob_79 (Nat.le_of_ble_eq_true rfl) dX7_cost_2 (fun hz2 => ?_)
  refine g_rg (fun hR2 => ?_)
  refine g_if_eq (tgt := 27) X (by first | exact hR2 _ _ | exact hR0 _ _ | assumption | (unfold InR; omega)) dX7_cost_5 (by decide) (fun h5 => ?_) (fun h5 => ?_)
  · skip
    refine g_iconst X dX7_cost_27 ?_
    exact g_iret X hr (by first | exact hR2 _ _ | exact hR0 _ _ | assumption | (unfold InR; omega)) ⟨(by repeat (first | rw [if_pos (by omega)] | rw [if_neg (by omega)]); all_goals omega), by rw [if_neg (by omega)]; exact F83.rf⟩ dX7_cost_28
  · skip
    refine g_aload0 X dX7_cost_8 ?_
    refine g_iload2 X dX7_cost_9 ?_
    refine g_F1 X (k_X7_isTask E hM hx2) gX7_cost_X7_isTask rfl (by decide +kernel) (by decide) ob_79 (Nat.le_of_ble_eq_true rfl) dX7_cost_10 (fun hz10 => ?_)
    refine g_rg (fun hR10 => ?_)
    refine g_if_eq (tgt := 27) X (by first | exact hR10 _ _ | exact hR2 _ _ | exact hR0 _ _ | assumption | (unfold InR; omega)) dX7_cost_13 (by decide) (fun h13 => ?_) (fun h13 => ?_)
    · skip
      refine g_iconst X dX7_cost_27 ?_
      exact g_iret X hr (by first | exact hR10 _ _ | exact hR2 _ _ | exact hR0 _ _ | assumption | (unfold InR; omega)) ⟨(by repeat (first | rw [if_pos (by omega)] | rw [if_neg (by omega)]); all_goals omega), by rw [if_neg (by omega)]; exact F83.rf⟩ dX7_cost_28
    · skip
      refine g_iload3 X dX7_cost_16 ?_
      refine g_iconst X dX7_cost_17 ?_
      refine g_sipush X dX7_cost_18 (by decide +kernel) ?_
      refine g_SF3 X (k_X7_in E (by first | assumption | (unfold InR; omega)) (by first | assumption | (unfold InR; omega)) (by first | assumption | (unfold InR; omega))) gX7_cost_X7_in rfl (by decide +kernel) (by decide) (Nat.le_of_ble_eq_true rfl) dX7_cost_21 (fun hz21 => ?_)
      refine g_rg (fun hR21 => ?_)
      refine g_if_ne (tgt := 29) X (by first | exact hR21 _ _ | exact hR10 _ _ | exact hR2 _ _ | exact hR0 _ _ | assumption | (unfold InR; omega)) dX7_cost_24 (by decide) (fun h24 => ?_) (fun h24 => ?_)
      · skip
        refine g_aload0 X dX7_cost_29 ?_
        refine g_W0 X (k_X7_changes E hP) gX7_cost_X7_changes rfl (by decide +kernel) (by decide) ob_79 (Nat.le_of_ble_eq_true rfl) dX7_cost_30 ?_
        refine g_rg (fun hR30 => ?_)
        have c80 := chg_80 σ
        have c8 : ∀ k, chg σ 80 k = σ 80 k := fun k => by rw [c80]
        refine g_aload0 X dX7_cost_33 ?_
        refine g_I0 X (k_X7_leastTotal E (by rw [c80]; exact hM)) gX7_cost_X7_leastTotal rfl (by decide +kernel) (by decide) ob_79 (Nat.le_of_ble_eq_true rfl) dX7_cost_34 (fun z34 σ34 hz34 hp34 => ?_)
        refine g_rg (fun hR34 => ?_)
        have hF1 := hp34.2
        have hz1 := hp34.1
        rw [chg_t] at hz1
        have htb := totM_b hM
        have hMc := hF1.mt (by rw [c80]; exact hM)
        refine g_istore4 X dX7_cost_37 (by decide) (by first | exact Or.inl rfl | exact Or.inr ⟨_, rfl, rfl⟩) ?_
        refine g_aload0 X dX7_cost_39 ?_
        refine gf_7_s X i7 (by decide +kernel) dX7_cost_40 ?_
        refine g_bipush X dX7_cost_43 (by decide +kernel) ?_
        refine g_bipush X dX7_cost_45 (by decide +kernel) ?_
        refine g_iload1 X dX7_cost_47 ?_
        refine g_imul X dX7_cost_48 ?_
        refine g_iadd X dX7_cost_49 ?_
        refine g_iload2 X dX7_cost_50 ?_
        refine g_iadd X dX7_cost_51 ?_
        refine g_iload3 X dX7_cost_52 ?_
        refine g_iast X (ia_80 (by omega)) (by first | exact hR34 _ _ | exact hR30 _ _ | exact hR21 _ _ | exact hR10 _ _ | exact hR2 _ _ | exact hR0 _ _ | assumption | (unfold InR; omega)) dX7_cost_53 ?_
        refine g_rg (fun hR53 => ?_)
        have hFu : F83 (prM σ x1 x2 x3) (up σ34 80 (9 + 7 * x1 + x2) x3) := hF1.put _ _ _
        have hMp := MT.pr (w := x1) (t := x2) (c := x3) hM (by omega) (by omega) (by omega)
        have htb2 := totM_b hMp
        refine g_aload0 X dX7_cost_54 ?_
        refine g_I0 X (k_X7_leastTotal E (hFu.mt hMp)) gX7_cost_X7_leastTotal rfl (by decide +kernel) (by decide) ob_79 (Nat.le_of_ble_eq_true rfl) dX7_cost_55 (fun z55 σ55 hz55 hp55 => ?_)
        refine g_rg (fun hR55 => ?_)
        have hz2 := hp55.1
        rw [totM_F hFu] at hz2
        refine g_iload4 X dX7_cost_58 ?_
        refine g_isub X dX7_cost_60 ?_
        refine g_ldc X (z := 100000) (by decide +kernel) rfl dX7_cost_61 ?_
        refine g_iadd X dX7_cost_63 ?_
        exact g_iret X hr (by first | exact hR55 _ _ | exact hR53 _ _ | exact hR34 _ _ | exact hR30 _ _ | exact hR21 _ _ | exact hR10 _ _ | exact hR2 _ _ | exact hR0 _ _ | assumption | (unfold InR; omega)) ⟨by rw [if_pos (by omega), hz2, hz1], by rw [if_pos (by omega)]; exact hFu.tr hp55.2⟩ dX7_cost_64
      · skip
        refine g_iconst X dX7_cost_27 ?_
        exact g_iret X hr (by first | exact hR21 _ _ | exact hR10 _ _ | exact hR2 _ _ | exact hR0 _ _ | assumption | (unfold InR; omega)) ⟨(by repeat (first | rw [if_pos (by omega)] | rw [if_neg (by omega)]); all_goals omega), by rw [if_neg (by omega)]; exact F83.rf⟩ dX7_cost_28

set_option maxHeartbeats 4000000 in
set_option maxRecDepth 100000 in
theorem k_X7_bar (E0 : EV) {ad : Int → Nat} {σ : St} {x1 x2 : Int} (hM : MT (σ 80)) (hP : 0 ≤ σ 79 2 ∧ σ 79 2 ≤ 4) (hx1 : InR x1) (hx2 : InR x2) : MGE E0 yX7_bar wsX7_bar 4 92 ad σ [.ref (ad 79), .int (iI x1), .int (iI x2)] (PI (fun z σ' => z = (if (0 ≤ x1 ∧ x1 < σ 80 0) ∧ (0 ≤ x2 ∧ x2 < σ 80 1) then (if cM σ x1 x2 < 0 then -2 else totM (prM σ x1 x2 (-1)) - totM σ) else -1) ∧ F83 (if ((0 ≤ x1 ∧ x1 < σ 80 0) ∧ (0 ≤ x2 ∧ x2 < σ 80 1)) ∧ ¬ cM σ x1 x2 < 0 then prM σ x1 x2 (-1) else σ) σ')) := by
  refine MGE.of (cc := cX7_bar) (maxL := 4) (ret := (some .int)) (own := RX7) [some (.ref (ad 79)), some (.int (iI x1)), some (.int (iI x2)), none] (by decide +kernel) rfl rfl (Nat.le_of_ble_eq_true rfl) rfl rfl (fun E X hr => ?_)
  have i7 : ∀ w ∈ wsX70, w ∈ wsX7_bar := by decide +kernel
  refine g_rg (fun hR0 => ?_)
  have hm := hM.1
  have hn := hM.2.1
  have hw := mW_01 σ x1
  have hk := mK_01 σ x2
  refine g_aload0 X dX7_bar_0 ?_
  refine g_iload1 X dX7_bar_1 ?_
  refine g_F1 X (k_X7_isWorker E hM hx1) gX7_bar_X7_isWorker rfl (by decide +kernel) (by decide) ob_79 (Nat.le_of_ble_eq_true rfl) dX7_bar_2 (fun hz2 => ?_)
  refine g_rg (fun hR2 => ?_)
  refine g_if_eq (tgt := 16) X (by first | exact hR2 _ _ | exact hR0 _ _ | assumption | (unfold InR; omega)) dX7_bar_5 (by decide) (fun h5 => ?_) (fun h5 => ?_)
  · skip
    refine g_iconst X dX7_bar_16 ?_
    exact g_iret X hr (by first | exact hR2 _ _ | exact hR0 _ _ | assumption | (unfold InR; omega)) ⟨(by repeat (first | rw [if_pos (by omega)] | rw [if_neg (by omega)]); all_goals omega), by rw [if_neg (by omega)]; exact F83.rf⟩ dX7_bar_17
  · skip
    refine g_aload0 X dX7_bar_8 ?_
    refine g_iload2 X dX7_bar_9 ?_
    refine g_F1 X (k_X7_isTask E hM hx2) gX7_bar_X7_isTask rfl (by decide +kernel) (by decide) ob_79 (Nat.le_of_ble_eq_true rfl) dX7_bar_10 (fun hz10 => ?_)
    refine g_rg (fun hR10 => ?_)
    refine g_if_ne (tgt := 18) X (by first | exact hR10 _ _ | exact hR2 _ _ | exact hR0 _ _ | assumption | (unfold InR; omega)) dX7_bar_13 (by decide) (fun h13 => ?_) (fun h13 => ?_)
    · skip
      refine g_aload0 X dX7_bar_18 ?_
      refine g_iload1 X dX7_bar_19 ?_
      refine g_iload2 X dX7_bar_20 ?_
      refine g_F2 X (k_X7_of E (by omega) (by omega)) gX7_bar_X7_of rfl (by decide +kernel) (by decide) ob_79 (Nat.le_of_ble_eq_true rfl) dX7_bar_21 (fun hz21 => ?_)
      refine g_rg (fun hR21 => ?_)
      have hcm : cM σ x1 x2 = σ 80 (9 + 7 * x1 + x2) := rfl
      refine g_if_ge (tgt := 30) X (by first | exact hR21 _ _ | exact hR10 _ _ | exact hR2 _ _ | exact hR0 _ _ | assumption | (unfold InR; omega)) dX7_bar_24 (by decide) (fun h24 => ?_) (fun h24 => ?_)
      · skip
        refine g_aload0 X dX7_bar_30 ?_
        refine g_W0 X (k_X7_changes E hP) gX7_bar_X7_changes rfl (by decide +kernel) (by decide) ob_79 (Nat.le_of_ble_eq_true rfl) dX7_bar_31 ?_
        refine g_rg (fun hR31 => ?_)
        have c80 := chg_80 σ
        have c8 : ∀ k, chg σ 80 k = σ 80 k := fun k => by rw [c80]
        refine g_aload0 X dX7_bar_34 ?_
        refine g_I0 X (k_X7_leastTotal E (by rw [c80]; exact hM)) gX7_bar_X7_leastTotal rfl (by decide +kernel) (by decide) ob_79 (Nat.le_of_ble_eq_true rfl) dX7_bar_35 (fun z35 σ35 hz35 hp35 => ?_)
        refine g_rg (fun hR35 => ?_)
        have hF1 := hp35.2
        have hz1 := hp35.1
        rw [chg_t] at hz1
        have htb := totM_b hM
        have hMc := hF1.mt (by rw [c80]; exact hM)
        refine g_istore3 X dX7_bar_38 (by decide) (by first | exact Or.inl rfl | exact Or.inr ⟨_, rfl, rfl⟩) ?_
        refine g_aload0 X dX7_bar_39 ?_
        refine gf_7_s X i7 (by decide +kernel) dX7_bar_40 ?_
        refine g_bipush X dX7_bar_43 (by decide +kernel) ?_
        refine g_bipush X dX7_bar_45 (by decide +kernel) ?_
        refine g_iload1 X dX7_bar_47 ?_
        refine g_imul X dX7_bar_48 ?_
        refine g_iadd X dX7_bar_49 ?_
        refine g_iload2 X dX7_bar_50 ?_
        refine g_iadd X dX7_bar_51 ?_
        refine g_iconst X dX7_bar_52 ?_
        refine g_iast X (ia_80 (by omega)) (by first | exact hR35 _ _ | exact hR31 _ _ | exact hR21 _ _ | exact hR10 _ _ | exact hR2 _ _ | exact hR0 _ _ | assumption | (unfold InR; omega)) dX7_bar_53 ?_
        refine g_rg (fun hR53 => ?_)
        have hFu : F83 (prM σ x1 x2 (-1)) (up σ35 80 (9 + 7 * x1 + x2) (-1)) := hF1.put _ _ _
        have hMp := MT.pr (w := x1) (t := x2) (c := (-1)) hM (by omega) (by omega) (by omega)
        have htb2 := totM_b hMp
        refine g_aload0 X dX7_bar_54 ?_
        refine g_I0 X (k_X7_leastTotal E (hFu.mt hMp)) gX7_bar_X7_leastTotal rfl (by decide +kernel) (by decide) ob_79 (Nat.le_of_ble_eq_true rfl) dX7_bar_55 (fun z55 σ55 hz55 hp55 => ?_)
        refine g_rg (fun hR55 => ?_)
        have hz2 := hp55.1
        rw [totM_F hFu] at hz2
        refine g_iload3 X dX7_bar_58 ?_
        refine g_isub X dX7_bar_59 ?_
        exact g_iret X hr (by first | exact hR55 _ _ | exact hR53 _ _ | exact hR35 _ _ | exact hR31 _ _ | exact hR21 _ _ | exact hR10 _ _ | exact hR2 _ _ | exact hR0 _ _ | assumption | (unfold InR; omega)) ⟨by rw [if_pos (by omega), if_neg (by omega), hz2, hz1], by rw [if_pos (by omega)]; exact hFu.tr hp55.2⟩ dX7_bar_60
      · skip
        refine g_bipush X dX7_bar_27 (by decide +kernel) ?_
        exact g_iret X hr (by first | exact hR21 _ _ | exact hR10 _ _ | exact hR2 _ _ | exact hR0 _ _ | assumption | (unfold InR; omega)) ⟨(by repeat (first | rw [if_pos (by omega)] | rw [if_neg (by omega)]); all_goals omega), by rw [if_neg (by omega)]; exact F83.rf⟩ dX7_bar_29
    · skip
      refine g_iconst X dX7_bar_16 ?_
      exact g_iret X hr (by first | exact hR10 _ _ | exact hR2 _ _ | exact hR0 _ _ | assumption | (unfold InR; omega)) ⟨(by repeat (first | rw [if_pos (by omega)] | rw [if_neg (by omega)]); all_goals omega), by rw [if_neg (by omega)]; exact F83.rf⟩ dX7_bar_17

set_option maxHeartbeats 4000000 in
set_option maxRecDepth 100000 in
theorem k_X7_idle (E0 : EV) {ad : Int → Nat} {σ : St} {x1 x2 : Int} (hM : MT (σ 80)) (hP : 0 ≤ σ 79 2 ∧ σ 79 2 ≤ 4) (hx1 : InR x1) (hx2 : InR x2) : MGE E0 yX7_idle wsX7_idle 1 22 ad σ [.ref (ad 79), .int (iI x1), .int (iI x2)] (PF (if (0 ≤ x1 ∧ x1 < σ 80 0) ∧ 0 ≤ x2 ∧ x2 ≤ 9999 then dM σ x1 else -1) (if (0 ≤ x1 ∧ x1 < σ 80 0) ∧ 0 ≤ x2 ∧ x2 ≤ 9999 then up (chg σ) 80 (2 + x1) x2 else σ)) := by
  refine MGE.of (cc := cX7_idle) (maxL := 4) (ret := (some .int)) (own := RX7) [some (.ref (ad 79)), some (.int (iI x1)), some (.int (iI x2)), none] (by decide +kernel) rfl rfl (Nat.le_of_ble_eq_true rfl) rfl rfl (fun E X hr => ?_)
  have i7 : ∀ w ∈ wsX70, w ∈ wsX7_idle := by decide +kernel
  refine g_rg (fun hR0 => ?_)
  have hm := hM.1
  have hn := hM.2.1
  have hw := mW_01 σ x1
  have hc := inB_01 x2 0 9999
  refine g_aload0 X dX7_idle_0 ?_
  refine g_iload1 X dX7_idle_1 ?_
  refine g_F1 X (k_X7_isWorker E hM hx1) gX7_idle_X7_isWorker rfl (by decide +kernel) (by decide) ob_79 (Nat.le_of_ble_eq_true rfl) dX7_idle_2 (fun hz2 => ?_)
  refine g_rg (fun hR2 => ?_)
  refine g_if_eq (tgt := 19) X (by first | exact hR2 _ _ | exact hR0 _ _ | assumption | (unfold InR; omega)) dX7_idle_5 (by decide) (fun h5 => ?_) (fun h5 => ?_)
  · skip
    refine g_iconst X dX7_idle_19 ?_
    exact g_iretF X hr (by first | exact hR2 _ _ | exact hR0 _ _ | assumption | (unfold InR; omega)) ⟨by first | (rw [if_neg (by omega)]; done) | (rw [if_pos (by omega)]; rfl), (by repeat (first | rw [if_pos (by omega)] | rw [if_neg (by omega)]); all_goals omega)⟩ dX7_idle_20
  · skip
    refine g_iload2 X dX7_idle_8 ?_
    refine g_iconst X dX7_idle_9 ?_
    refine g_sipush X dX7_idle_10 (by decide +kernel) ?_
    refine g_SF3 X (k_X7_in E (by first | assumption | (unfold InR; omega)) (by first | assumption | (unfold InR; omega)) (by first | assumption | (unfold InR; omega))) gX7_idle_X7_in rfl (by decide +kernel) (by decide) (Nat.le_of_ble_eq_true rfl) dX7_idle_13 (fun hz13 => ?_)
    refine g_rg (fun hR13 => ?_)
    refine g_if_ne (tgt := 21) X (by first | exact hR13 _ _ | exact hR2 _ _ | exact hR0 _ _ | assumption | (unfold InR; omega)) dX7_idle_16 (by decide) (fun h16 => ?_) (fun h16 => ?_)
    · skip
      refine g_aload0 X dX7_idle_21 ?_
      refine g_W0 X (k_X7_changes E hP) gX7_idle_X7_changes rfl (by decide +kernel) (by decide) ob_79 (Nat.le_of_ble_eq_true rfl) dX7_idle_22 ?_
      refine g_rg (fun hR22 => ?_)
      have c80 := chg_80 σ
      have c8 : ∀ k, chg σ 80 k = σ 80 k := fun k => by rw [c80]
      refine g_aload0 X dX7_idle_25 ?_
      refine gf_7_s X i7 (by decide +kernel) dX7_idle_26 ?_
      refine g_iconst X dX7_idle_29 ?_
      refine g_iload1 X dX7_idle_30 ?_
      refine g_iadd X dX7_idle_31 ?_
      refine g_iald X (ia_80 (by omega)) dX7_idle_32 ?_
      rw [c8]
      refine g_istore3 X dX7_idle_33 (by decide) (by first | exact Or.inl rfl | exact Or.inr ⟨_, rfl, rfl⟩) ?_
      refine g_aload0 X dX7_idle_34 ?_
      refine gf_7_s X i7 (by decide +kernel) dX7_idle_35 ?_
      refine g_iconst X dX7_idle_38 ?_
      refine g_iload1 X dX7_idle_39 ?_
      refine g_iadd X dX7_idle_40 ?_
      refine g_iload2 X dX7_idle_41 ?_
      refine g_iast X (ia_80 (by omega)) (by first | exact hR22 _ _ | exact hR13 _ _ | exact hR2 _ _ | exact hR0 _ _ | assumption | (unfold InR; omega)) dX7_idle_42 ?_
      refine g_rg (fun hR42 => ?_)
      refine g_iload3 X dX7_idle_43 ?_
      exact g_iretF X hr (by first | exact hR42 _ _ | exact hR22 _ _ | exact hR13 _ _ | exact hR2 _ _ | exact hR0 _ _ | assumption | (unfold InR; omega)) ⟨by first | (rw [if_neg (by omega)]; done) | (rw [if_pos (by omega)]; rfl), (by repeat (first | rw [if_pos (by omega)] | rw [if_neg (by omega)]); all_goals omega)⟩ dX7_idle_44
    · skip
      refine g_iconst X dX7_idle_19 ?_
      exact g_iretF X hr (by first | exact hR13 _ _ | exact hR2 _ _ | exact hR0 _ _ | assumption | (unfold InR; omega)) ⟨by first | (rw [if_neg (by omega)]; done) | (rw [if_pos (by omega)]; rfl), (by repeat (first | rw [if_pos (by omega)] | rw [if_neg (by omega)]); all_goals omega)⟩ dX7_idle_20

set_option maxHeartbeats 4000000 in
set_option maxRecDepth 100000 in
theorem k_X7_greatestOf (E0 : EV) {ad : Int → Nat} {σ : St} {x1 : Int} (hM : MT (σ 80)) (hw : 0 ≤ x1 ∧ x1 < 7) : MGE E0 yX7_greatestOf wsX7_greatestOf 1 22 ad σ [.ref (ad 79), .int (iI x1)] (PF (gOM σ x1 (σ 80 1)) σ) := by
  refine MGE.of (cc := cX7_greatestOf) (maxL := 4) (ret := (some .int)) (own := RX7) [some (.ref (ad 79)), some (.int (iI x1)), none, none] (by decide +kernel) rfl rfl (Nat.le_of_ble_eq_true rfl) rfl rfl (fun E X hr => ?_)
  have i7 : ∀ w ∈ wsX70, w ∈ wsX7_greatestOf := by decide +kernel
  refine g_rg (fun hR0 => ?_)
  have hm := hM.1
  have hn := hM.2.1
  have hd := hM.2.2.1 x1 hw.1 hw.2
  refine g_aload0 X dX7_greatestOf_0 ?_
  refine gf_7_s X i7 (by decide +kernel) dX7_greatestOf_1 ?_
  refine g_iconst X dX7_greatestOf_4 ?_
  refine g_iload1 X dX7_greatestOf_5 ?_
  refine g_iadd X dX7_greatestOf_6 ?_
  refine g_iald X (ia_80 (by omega)) dX7_greatestOf_7 ?_
  refine g_istore2 X dX7_greatestOf_8 (by decide) (by first | exact Or.inl rfl | exact Or.inr ⟨_, rfl, rfl⟩) ?_
  refine g_iconst X dX7_greatestOf_9 ?_
  refine g_istore3 X dX7_greatestOf_10 (by decide) (by first | exact Or.inl rfl | exact Or.inr ⟨_, rfl, rfl⟩) ?_
  have L11 : ∀ (n11 : Nat) (t a : Int), (7 - t).toNat < n11 → (0 ≤ t ∧ t ≤ σ 80 1) → (0 ≤ a ∧ a ≤ 9999) → (a = gOM σ x1 t) → WG E ad 4 σ 11 [some (.ref (ad 79)), some (.int (iI x1)), some (.int (iI a)), some (.int (iI t))] [] := by
    intro n11
    induction n11 with
    | zero => intro t a hn; exact absurd hn (Nat.not_lt_zero _)
    | succ n11 ih11 =>
      intro t a hn11 ht hab ha
      refine g_rg (fun hRL11 => ?_)
      refine g_iload3 X dX7_greatestOf_11 ?_
      refine g_aload0 X dX7_greatestOf_12 ?_
      refine gf_7_s X i7 (by decide +kernel) dX7_greatestOf_13 ?_
      refine g_iconst X dX7_greatestOf_16 ?_
      refine g_iald X (ia_80 (by omega)) dX7_greatestOf_17 ?_
      refine g_icmp_ge (tgt := 48) X (by first | exact hRL11 _ _ | exact hR0 _ _ | assumption | (unfold InR; omega)) (by first | exact hRL11 _ _ | exact hR0 _ _ | assumption | (unfold InR; omega)) dX7_greatestOf_18 (by decide) (fun h18 => ?_) (fun h18 => ?_)
      · skip
        refine g_iload2 X dX7_greatestOf_48 ?_
        exact g_iretF X hr (by first | exact hRL11 _ _ | exact hR0 _ _ | assumption | (unfold InR; omega)) ⟨by rw [ha, show t = σ 80 1 by omega], rfl⟩ dX7_greatestOf_49
      · skip
        refine g_aload0 X dX7_greatestOf_21 ?_
        refine g_iload1 X dX7_greatestOf_22 ?_
        refine g_iload3 X dX7_greatestOf_23 ?_
        have hcm : cM σ x1 t = σ 80 (9 + 7 * x1 + t) := rfl
        have hcb := hM.2.2.2 x1 t hw.1 hw.2 (by omega) (by omega)
        refine g_F2 X (k_X7_of E (by omega) (by omega)) gX7_greatestOf_X7_of rfl (by decide +kernel) (by decide) ob_79 (Nat.le_of_ble_eq_true rfl) dX7_greatestOf_24 (fun hz24 => ?_)
        refine g_rg (fun hR24 => ?_)
        refine g_iload2 X dX7_greatestOf_27 ?_
        refine g_icmp_le (tgt := 40) X (by first | exact hR24 _ _ | exact hRL11 _ _ | exact hR0 _ _ | assumption | (unfold InR; omega)) (by first | exact hR24 _ _ | exact hRL11 _ _ | exact hR0 _ _ | assumption | (unfold InR; omega)) dX7_greatestOf_28 (by decide) (fun h28 => ?_) (fun h28 => ?_)
        · skip
          refine g_iload2 X dX7_greatestOf_40 ?_
          refine g_istore2 X dX7_greatestOf_41 (by decide) (by first | exact Or.inl rfl | exact Or.inr ⟨_, rfl, rfl⟩) ?_
          refine g_iinc3 X dX7_greatestOf_42 (by decide) (by first | exact Or.inl rfl | exact Or.inr ⟨_, rfl, rfl⟩) ?_
          refine g_goto (tgt := 11) X dX7_greatestOf_45 (by decide) ?_
          refine ih11 _ _ (by omega) ?_ ?_ ?_
          · omega
          · omega
          · rw [gOM_s (by omega), ← ha]; omega
        · skip
          refine g_aload0 X dX7_greatestOf_31 ?_
          refine g_iload1 X dX7_greatestOf_32 ?_
          refine g_iload3 X dX7_greatestOf_33 ?_
          refine g_F2 X (k_X7_of E (by omega) (by omega)) gX7_greatestOf_X7_of rfl (by decide +kernel) (by decide) ob_79 (Nat.le_of_ble_eq_true rfl) dX7_greatestOf_34 (fun hz34 => ?_)
          refine g_rg (fun hR34 => ?_)
          refine g_goto (tgt := 41) X dX7_greatestOf_37 (by decide) ?_
          refine g_istore2 X dX7_greatestOf_41 (by decide) (by first | exact Or.inl rfl | exact Or.inr ⟨_, rfl, rfl⟩) ?_
          refine g_iinc3 X dX7_greatestOf_42 (by decide) (by first | exact Or.inl rfl | exact Or.inr ⟨_, rfl, rfl⟩) ?_
          refine g_goto (tgt := 11) X dX7_greatestOf_45 (by decide) ?_
          refine ih11 _ _ (by omega) ?_ ?_ ?_
          · omega
          · omega
          · rw [gOM_s (by omega), ← ha]; omega
  refine L11 _ _ _ (Nat.lt_succ_self _) ?_ ?_ ?_
  · omega
  · omega
  · rfl
