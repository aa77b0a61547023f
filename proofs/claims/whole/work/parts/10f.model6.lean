/-! MY CONTRACTS: the reference's questions, second half -/
theorem F84.wo {σ σ' : St} (h : F84 σ σ') (w t : Int) : woV σ' w t = woV σ w t := woV_c (fun k => h _ _ (by omega) (by omega)) (h _ _ (by omega) (by omega)) w t
theorem F83.wo {σ σ' : St} (h : F83 σ σ') (w t : Int) : woV σ' w t = woV σ w t := h.f84.wo w t
theorem F83.bu {σ σ' : St} (h : F83 σ σ') (w : Int) : buV σ' w = buV σ w := by
  unfold buV buS cM
  rw [h 80 _ (by omega), show σ' 80 = σ 80 from funext fun k => h _ _ (by omega)]
  refine congrArg (fun f => FI f 1000000 (σ 80 1)) ?_
  funext a t
  rw [wiV_F h]
set_option maxHeartbeats 4000000 in
set_option maxRecDepth 100000 in
theorem k_X7_pairOf (E0 : EV) {ad : Int → Nat} {σ : St} {x1 x2 x3 : Int} (hM : MT (σ 80)) (hN : N4 σ) (hx1 : InR x1) (hx2 : InR x2) (hx3 : InR x3) : MGE E0 yX7_pairOf wsX7_pairOf 5 119 ad σ [.ref (ad 79), .int (iI x1), .int (iI x2), .int (iI x3)] (PI (fun z σ' => z = (if (0 ≤ x1 ∧ x1 < σ 80 0) ∧ (x2 = -1 ∨ (0 ≤ x2 ∧ x2 < σ 80 1)) ∧ 0 ≤ x3 ∧ x3 ≤ 2 then (if 0 ≤ x2 ∧ cM σ x1 x2 < 0 then -4 else if x3 = 1 then (if totM σ < (if x2 < 0 then buV σ x1 else woV σ x1 x2) then 1 else 0) else if x3 = 2 then wiV σ x1 x2 - totM σ else if wiV σ x1 x2 - totM σ = 0 then 1 else 0) else -1) ∧ QM σ σ')) := by
  refine MGE.of (cc := cX7_pairOf) (maxL := 6) (ret := (some .int)) (own := RX7) [some (.ref (ad 79)), some (.int (iI x1)), some (.int (iI x2)), some (.int (iI x3)), none, none] (by decide +kernel) rfl rfl (Nat.le_of_ble_eq_true rfl) rfl rfl (fun E X hr => ?_)
  refine g_rg (fun hR0 => ?_)
  have hm := hM.1
  have hn := hM.2.1
  have hw := mW_01 σ x1
  have hk := mK_01 σ x2
  have hc := inB_01 x3 0 2
  have hcm : cM σ x1 x2 = σ 80 (9 + 7 * x1 + x2) := rfl
  have htb := totM_b hM
  refine g_aload0 X dX7_pairOf_0 ?_
  refine g_iload1 X dX7_pairOf_1 ?_
  refine g_F1 X (k_X7_isWorker E hM hx1) gX7_pairOf_X7_isWorker rfl (by decide +kernel) (by decide) ob_79 (Nat.le_of_ble_eq_true rfl) dX7_pairOf_2 (fun hz2 => ?_)
  refine g_rg (fun hR2 => ?_)
  refine g_if_eq (tgt := 30) X (by first | exact hR2 _ _ | exact hR0 _ _ | assumption | (unfold InR; omega)) dX7_pairOf_5 (by decide) (fun h5 => ?_) (fun h5 => ?_)
  · skip
    refine g_iconst X dX7_pairOf_30 ?_
    exact g_iret X hr (by first | exact hR2 _ _ | exact hR0 _ _ | assumption | (unfold InR; omega)) ⟨by rw [if_neg (by omega)], QM.rf⟩ dX7_pairOf_31
  · skip
    refine g_iload2 X dX7_pairOf_8 ?_
    refine g_iconst X dX7_pairOf_9 ?_
    refine g_icmp_eq (tgt := 21) X (by first | exact hR2 _ _ | exact hR0 _ _ | assumption | (unfold InR; omega)) (by first | exact hR2 _ _ | exact hR0 _ _ | assumption | (unfold InR; omega)) dX7_pairOf_10 (by decide) (fun h10 => ?_) (fun h10 => ?_)
    · skip
      refine g_iload3 X dX7_pairOf_21 ?_
      refine g_iconst X dX7_pairOf_22 ?_
      refine g_iconst X dX7_pairOf_23 ?_
      refine g_SF3 X (k_X7_in E (by first | assumption | (unfold InR; omega)) (by first | assumption | (unfold InR; omega)) (by first | assumption | (unfold InR; omega))) gX7_pairOf_X7_in rfl (by decide +kernel) (by decide) (Nat.le_of_ble_eq_true rfl) dX7_pairOf_24 (fun hz24 => ?_)
      refine g_rg (fun hR24 => ?_)
      refine g_if_ne (tgt := 32) X (by first | exact hR24 _ _ | exact hR2 _ _ | exact hR0 _ _ | assumption | (unfold InR; omega)) dX7_pairOf_27 (by decide) (fun h27 => ?_) (fun h27 => ?_)
      · skip
        refine g_iload2 X dX7_pairOf_32 ?_
        refine g_if_lt (tgt := 48) X (by first | exact hR24 _ _ | exact hR2 _ _ | exact hR0 _ _ | assumption | (unfold InR; omega)) dX7_pairOf_33 (by decide) (fun h33 => ?_) (fun h33 => ?_)
        · skip
          refine g_aload0 X dX7_pairOf_48 ?_
          refine g_I0 X (k_X7_leastTotal E hM) gX7_pairOf_X7_leastTotal rfl (by decide +kernel) (by decide) ob_79 (Nat.le_of_ble_eq_true rfl) dX7_pairOf_49 (fun z49 σ49 hz49 hp49 => ?_)
          refine g_rg (fun hR49 => ?_)
          have hz49 := hp49.1
          have hF := hp49.2
          have hMf := hF.mt hM
          have hNf := hF.n4 hN
          have g0 : σ49 80 0 = σ 80 0 := hF _ _ (by omega)
          have g1 : σ49 80 1 = σ 80 1 := hF _ _ (by omega)
          refine g_istore4 X dX7_pairOf_52 (by decide) (by first | exact Or.inl rfl | exact Or.inr ⟨_, rfl, rfl⟩) ?_
          refine g_iload3 X dX7_pairOf_54 ?_
          refine g_iconst X dX7_pairOf_55 ?_
          refine g_icmp_ne (tgt := 88) X (by first | exact hR49 _ _ | exact hR24 _ _ | exact hR2 _ _ | exact hR0 _ _ | assumption | (unfold InR; omega)) (by first | exact hR49 _ _ | exact hR24 _ _ | exact hR2 _ _ | exact hR0 _ _ | assumption | (unfold InR; omega)) dX7_pairOf_56 (by decide) (fun h56 => ?_) (fun h56 => ?_)
          · skip
            refine g_aload0 X dX7_pairOf_88 ?_
            refine g_iload1 X dX7_pairOf_89 ?_
            refine g_iload2 X dX7_pairOf_90 ?_
            refine g_I2 X (k_X7_with E hMf (by omega) (by omega)) gX7_pairOf_X7_with rfl (by decide +kernel) (by decide) ob_79 (Nat.le_of_ble_eq_true rfl) dX7_pairOf_91 (fun z91 σ91 hz91 hp91 => ?_)
            refine g_rg (fun hR91 => ?_)
            have hz91 := hp91.1
            rw [wiV_F hF] at hz91
            have hwb := wiV_b hM (w := x1) (t := x2) (by omega) (by omega)
            refine g_iload4 X dX7_pairOf_94 ?_
            refine g_isub X dX7_pairOf_96 ?_
            refine g_istore5 X dX7_pairOf_97 (by decide) (by first | exact Or.inl rfl | exact Or.inr ⟨_, rfl, rfl⟩) ?_
            refine g_iload3 X dX7_pairOf_99 ?_
            refine g_iconst X dX7_pairOf_100 ?_
            refine g_icmp_ne (tgt := 109) X (by first | exact hR91 _ _ | exact hR49 _ _ | exact hR24 _ _ | exact hR2 _ _ | exact hR0 _ _ | assumption | (unfold InR; omega)) (by first | exact hR91 _ _ | exact hR49 _ _ | exact hR24 _ _ | exact hR2 _ _ | exact hR0 _ _ | assumption | (unfold InR; omega)) dX7_pairOf_101 (by decide) (fun h101 => ?_) (fun h101 => ?_)
            · skip
              refine g_iload5 X dX7_pairOf_109 ?_
              refine g_if_ne (tgt := 118) X (by first | exact hR91 _ _ | exact hR49 _ _ | exact hR24 _ _ | exact hR2 _ _ | exact hR0 _ _ | assumption | (unfold InR; omega)) dX7_pairOf_111 (by decide) (fun h111 => ?_) (fun h111 => ?_)
              · skip
                refine g_iconst X dX7_pairOf_118 ?_
                exact g_iret X hr (by first | exact hR91 _ _ | exact hR49 _ _ | exact hR24 _ _ | exact hR2 _ _ | exact hR0 _ _ | assumption | (unfold InR; omega)) (by first | exact ⟨by rw [if_pos (by omega), if_neg (by omega), if_pos (by omega), if_pos (show x2 < 0 by omega), ← hz65]; first | (rw [if_pos (by omega)]; done) | (rw [if_neg (by omega)]; done), hF.qm.tr hp65.2.qm⟩ | exact ⟨by rw [if_pos (by omega), if_neg (by omega), if_pos (by omega), if_neg (show ¬ x2 < 0 by omega), ← hz74]; first | (rw [if_pos (by omega)]; done) | (rw [if_neg (by omega)]; done), hF.qm.tr hp74.2.qm⟩ | exact ⟨by rw [if_pos (by omega), if_neg (by omega), if_neg (by omega), if_pos (by omega), hz91, hz49], hF.qm.tr hp91.2.qm⟩ | exact ⟨by rw [if_pos (by omega), if_neg (by omega), if_neg (by omega), if_neg (by omega), ← hz91, ← hz49]; first | (rw [if_pos (by omega)]; done) | (rw [if_neg (by omega)]; done), hF.qm.tr hp91.2.qm⟩) dX7_pairOf_119
              · skip
                refine g_iconst X dX7_pairOf_114 ?_
                refine g_goto (tgt := 119) X dX7_pairOf_115 (by decide) ?_
                exact g_iret X hr (by first | exact hR91 _ _ | exact hR49 _ _ | exact hR24 _ _ | exact hR2 _ _ | exact hR0 _ _ | assumption | (unfold InR; omega)) (by first | exact ⟨by rw [if_pos (by omega), if_neg (by omega), if_pos (by omega), if_pos (show x2 < 0 by omega), ← hz65]; first | (rw [if_pos (by omega)]; done) | (rw [if_neg (by omega)]; done), hF.qm.tr hp65.2.qm⟩ | exact ⟨by rw [if_pos (by omega), if_neg (by omega), if_pos (by omega), if_neg (show ¬ x2 < 0 by omega), ← hz74]; first | (rw [if_pos (by omega)]; done) | (rw [if_neg (by omega)]; done), hF.qm.tr hp74.2.qm⟩ | exact ⟨by rw [if_pos (by omega), if_neg (by omega), if_neg (by omega), if_pos (by omega), hz91, hz49], hF.qm.tr hp91.2.qm⟩ | exact ⟨by rw [if_pos (by omega), if_neg (by omega), if_neg (by omega), if_neg (by omega), ← hz91, ← hz49]; first | (rw [if_pos (by omega)]; done) | (rw [if_neg (by omega)]; done), hF.qm.tr hp91.2.qm⟩) dX7_pairOf_119
            · skip
              refine g_iload5 X dX7_pairOf_104 ?_
              refine g_goto (tgt := 119) X dX7_pairOf_106 (by decide) ?_
              exact g_iret X hr (by first | exact hR91 _ _ | exact hR49 _ _ | exact hR24 _ _ | exact hR2 _ _ | exact hR0 _ _ | assumption | (unfold InR; omega)) (by first | exact ⟨by rw [if_pos (by omega), if_neg (by omega), if_pos (by omega), if_pos (show x2 < 0 by omega), ← hz65]; first | (rw [if_pos (by omega)]; done) | (rw [if_neg (by omega)]; done), hF.qm.tr hp65.2.qm⟩ | exact ⟨by rw [if_pos (by omega), if_neg (by omega), if_pos (by omega), if_neg (show ¬ x2 < 0 by omega), ← hz74]; first | (rw [if_pos (by omega)]; done) | (rw [if_neg (by omega)]; done), hF.qm.tr hp74.2.qm⟩ | exact ⟨by rw [if_pos (by omega), if_neg (by omega), if_neg (by omega), if_pos (by omega), hz91, hz49], hF.qm.tr hp91.2.qm⟩ | exact ⟨by rw [if_pos (by omega), if_neg (by omega), if_neg (by omega), if_neg (by omega), ← hz91, ← hz49]; first | (rw [if_pos (by omega)]; done) | (rw [if_neg (by omega)]; done), hF.qm.tr hp91.2.qm⟩) dX7_pairOf_119
          · skip
            refine g_iload2 X dX7_pairOf_59 ?_
            refine g_if_ge (tgt := 71) X (by first | exact hR49 _ _ | exact hR24 _ _ | exact hR2 _ _ | exact hR0 _ _ | assumption | (unfold InR; omega)) dX7_pairOf_60 (by decide) (fun h60 => ?_) (fun h60 => ?_)
            · skip
              refine g_aload0 X dX7_pairOf_71 ?_
              refine g_iload1 X dX7_pairOf_72 ?_
              refine g_iload2 X dX7_pairOf_73 ?_
              refine g_I2 X (k_X7_without E hMf hNf hx1 hx2) gX7_pairOf_X7_without rfl (by decide +kernel) (by decide) ob_79 (Nat.le_of_ble_eq_true rfl) dX7_pairOf_74 (fun z74 σ74 hz74 hp74 => ?_)
              refine g_rg (fun hR74 => ?_)
              have hz74 := hp74.1
              rw [hF.wo] at hz74
              have hwb := woV_b hM x1 x2
              skip
              refine g_iload4 X dX7_pairOf_77 ?_
              refine g_icmp_le (tgt := 86) X (by first | exact hR74 _ _ | exact hR49 _ _ | exact hR24 _ _ | exact hR2 _ _ | exact hR0 _ _ | assumption | (unfold InR; omega)) (by first | exact hR74 _ _ | exact hR49 _ _ | exact hR24 _ _ | exact hR2 _ _ | exact hR0 _ _ | assumption | (unfold InR; omega)) dX7_pairOf_79 (by decide) (fun h79 => ?_) (fun h79 => ?_)
              · skip
                refine g_iconst X dX7_pairOf_86 ?_
                exact g_iret X hr (by first | exact hR74 _ _ | exact hR49 _ _ | exact hR24 _ _ | exact hR2 _ _ | exact hR0 _ _ | assumption | (unfold InR; omega)) (by first | exact ⟨by rw [if_pos (by omega), if_neg (by omega), if_pos (by omega), if_pos (show x2 < 0 by omega), ← hz65]; first | (rw [if_pos (by omega)]; done) | (rw [if_neg (by omega)]; done), hF.qm.tr hp65.2.qm⟩ | exact ⟨by rw [if_pos (by omega), if_neg (by omega), if_pos (by omega), if_neg (show ¬ x2 < 0 by omega), ← hz74]; first | (rw [if_pos (by omega)]; done) | (rw [if_neg (by omega)]; done), hF.qm.tr hp74.2.qm⟩ | exact ⟨by rw [if_pos (by omega), if_neg (by omega), if_neg (by omega), if_pos (by omega), hz91, hz49], hF.qm.tr hp91.2.qm⟩ | exact ⟨by rw [if_pos (by omega), if_neg (by omega), if_neg (by omega), if_neg (by omega), ← hz91, ← hz49]; first | (rw [if_pos (by omega)]; done) | (rw [if_neg (by omega)]; done), hF.qm.tr hp91.2.qm⟩) dX7_pairOf_87
              · skip
                refine g_iconst X dX7_pairOf_82 ?_
                refine g_goto (tgt := 87) X dX7_pairOf_83 (by decide) ?_
                exact g_iret X hr (by first | exact hR74 _ _ | exact hR49 _ _ | exact hR24 _ _ | exact hR2 _ _ | exact hR0 _ _ | assumption | (unfold InR; omega)) (by first | exact ⟨by rw [if_pos (by omega), if_neg (by omega), if_pos (by omega), if_pos (show x2 < 0 by omega), ← hz65]; first | (rw [if_pos (by omega)]; done) | (rw [if_neg (by omega)]; done), hF.qm.tr hp65.2.qm⟩ | exact ⟨by rw [if_pos (by omega), if_neg (by omega), if_pos (by omega), if_neg (show ¬ x2 < 0 by omega), ← hz74]; first | (rw [if_pos (by omega)]; done) | (rw [if_neg (by omega)]; done), hF.qm.tr hp74.2.qm⟩ | exact ⟨by rw [if_pos (by omega), if_neg (by omega), if_neg (by omega), if_pos (by omega), hz91, hz49], hF.qm.tr hp91.2.qm⟩ | exact ⟨by rw [if_pos (by omega), if_neg (by omega), if_neg (by omega), if_neg (by omega), ← hz91, ← hz49]; first | (rw [if_pos (by omega)]; done) | (rw [if_neg (by omega)]; done), hF.qm.tr hp91.2.qm⟩) dX7_pairOf_87
            · skip
              refine g_aload0 X dX7_pairOf_63 ?_
              refine g_iload1 X dX7_pairOf_64 ?_
              refine g_I1 X (k_X7_busy E hMf (by omega)) gX7_pairOf_X7_busy rfl (by decide +kernel) (by decide) ob_79 (Nat.le_of_ble_eq_true rfl) dX7_pairOf_65 (fun z65 σ65 hz65 hp65 => ?_)
              refine g_rg (fun hR65 => ?_)
              have hz65 := hp65.1
              rw [hF.bu] at hz65
              have hbb := buV_b hM (w := x1) (by omega) (σ 80 1).toNat (by omega)
              rw [Int.toNat_of_nonneg hn.1] at hbb
              have hq := hF.qm.tr hp65.2.qm
              refine g_goto (tgt := 77) X dX7_pairOf_68 (by decide) ?_
              skip
              refine g_iload4 X dX7_pairOf_77 ?_
              refine g_icmp_le (tgt := 86) X (by first | exact hR65 _ _ | exact hR49 _ _ | exact hR24 _ _ | exact hR2 _ _ | exact hR0 _ _ | assumption | (unfold InR; omega)) (by first | exact hR65 _ _ | exact hR49 _ _ | exact hR24 _ _ | exact hR2 _ _ | exact hR0 _ _ | assumption | (unfold InR; omega)) dX7_pairOf_79 (by decide) (fun h79 => ?_) (fun h79 => ?_)
              · skip
                refine g_iconst X dX7_pairOf_86 ?_
                exact g_iret X hr (by first | exact hR65 _ _ | exact hR49 _ _ | exact hR24 _ _ | exact hR2 _ _ | exact hR0 _ _ | assumption | (unfold InR; omega)) (by first | exact ⟨by rw [if_pos (by omega), if_neg (by omega), if_pos (by omega), if_pos (show x2 < 0 by omega), ← hz65]; first | (rw [if_pos (by omega)]; done) | (rw [if_neg (by omega)]; done), hF.qm.tr hp65.2.qm⟩ | exact ⟨by rw [if_pos (by omega), if_neg (by omega), if_pos (by omega), if_neg (show ¬ x2 < 0 by omega), ← hz74]; first | (rw [if_pos (by omega)]; done) | (rw [if_neg (by omega)]; done), hF.qm.tr hp74.2.qm⟩ | exact ⟨by rw [if_pos (by omega), if_neg (by omega), if_neg (by omega), if_pos (by omega), hz91, hz49], hF.qm.tr hp91.2.qm⟩ | exact ⟨by rw [if_pos (by omega), if_neg (by omega), if_neg (by omega), if_neg (by omega), ← hz91, ← hz49]; first | (rw [if_pos (by omega)]; done) | (rw [if_neg (by omega)]; done), hF.qm.tr hp91.2.qm⟩) dX7_pairOf_87
              · skip
                refine g_iconst X dX7_pairOf_82 ?_
                refine g_goto (tgt := 87) X dX7_pairOf_83 (by decide) ?_
                exact g_iret X hr (by first | exact hR65 _ _ | exact hR49 _ _ | exact hR24 _ _ | exact hR2 _ _ | exact hR0 _ _ | assumption | (unfold InR; omega)) (by first | exact ⟨by rw [if_pos (by omega), if_neg (by omega), if_pos (by omega), if_pos (show x2 < 0 by omega), ← hz65]; first | (rw [if_pos (by omega)]; done) | (rw [if_neg (by omega)]; done), hF.qm.tr hp65.2.qm⟩ | exact ⟨by rw [if_pos (by omega), if_neg (by omega), if_pos (by omega), if_neg (show ¬ x2 < 0 by omega), ← hz74]; first | (rw [if_pos (by omega)]; done) | (rw [if_neg (by omega)]; done), hF.qm.tr hp74.2.qm⟩ | exact ⟨by rw [if_pos (by omega), if_neg (by omega), if_neg (by omega), if_pos (by omega), hz91, hz49], hF.qm.tr hp91.2.qm⟩ | exact ⟨by rw [if_pos (by omega), if_neg (by omega), if_neg (by omega), if_neg (by omega), ← hz91, ← hz49]; first | (rw [if_pos (by omega)]; done) | (rw [if_neg (by omega)]; done), hF.qm.tr hp91.2.qm⟩) dX7_pairOf_87
        · skip
          refine g_aload0 X dX7_pairOf_36 ?_
          refine g_iload1 X dX7_pairOf_37 ?_
          refine g_iload2 X dX7_pairOf_38 ?_
          refine g_F2 X (k_X7_of E (by omega) (by omega)) gX7_pairOf_X7_of rfl (by decide +kernel) (by decide) ob_79 (Nat.le_of_ble_eq_true rfl) dX7_pairOf_39 (fun hz39 => ?_)
          refine g_rg (fun hR39 => ?_)
          refine g_if_ge (tgt := 48) X (by first | exact hR39 _ _ | exact hR24 _ _ | exact hR2 _ _ | exact hR0 _ _ | assumption | (unfold InR; omega)) dX7_pairOf_42 (by decide) (fun h42 => ?_) (fun h42 => ?_)
          · skip
            refine g_aload0 X dX7_pairOf_48 ?_
            refine g_I0 X (k_X7_leastTotal E hM) gX7_pairOf_X7_leastTotal rfl (by decide +kernel) (by decide) ob_79 (Nat.le_of_ble_eq_true rfl) dX7_pairOf_49 (fun z49 σ49 hz49 hp49 => ?_)
            refine g_rg (fun hR49 => ?_)
            have hz49 := hp49.1
            have hF := hp49.2
            have hMf := hF.mt hM
            have hNf := hF.n4 hN
            have g0 : σ49 80 0 = σ 80 0 := hF _ _ (by omega)
            have g1 : σ49 80 1 = σ 80 1 := hF _ _ (by omega)
            refine g_istore4 X dX7_pairOf_52 (by decide) (by first | exact Or.inl rfl | exact Or.inr ⟨_, rfl, rfl⟩) ?_
            refine g_iload3 X dX7_pairOf_54 ?_
            refine g_iconst X dX7_pairOf_55 ?_
            refine g_icmp_ne (tgt := 88) X (by first | exact hR49 _ _ | exact hR39 _ _ | exact hR24 _ _ | exact hR2 _ _ | exact hR0 _ _ | assumption | (unfold InR; omega)) (by first | exact hR49 _ _ | exact hR39 _ _ | exact hR24 _ _ | exact hR2 _ _ | exact hR0 _ _ | assumption | (unfold InR; omega)) dX7_pairOf_56 (by decide) (fun h56 => ?_) (fun h56 => ?_)
            · skip
              refine g_aload0 X dX7_pairOf_88 ?_
              refine g_iload1 X dX7_pairOf_89 ?_
              refine g_iload2 X dX7_pairOf_90 ?_
              refine g_I2 X (k_X7_with E hMf (by omega) (by omega)) gX7_pairOf_X7_with rfl (by decide +kernel) (by decide) ob_79 (Nat.le_of_ble_eq_true rfl) dX7_pairOf_91 (fun z91 σ91 hz91 hp91 => ?_)
              refine g_rg (fun hR91 => ?_)
              have hz91 := hp91.1
              rw [wiV_F hF] at hz91
              have hwb := wiV_b hM (w := x1) (t := x2) (by omega) (by omega)
              refine g_iload4 X dX7_pairOf_94 ?_
              refine g_isub X dX7_pairOf_96 ?_
              refine g_istore5 X dX7_pairOf_97 (by decide) (by first | exact Or.inl rfl | exact Or.inr ⟨_, rfl, rfl⟩) ?_
              refine g_iload3 X dX7_pairOf_99 ?_
              refine g_iconst X dX7_pairOf_100 ?_
              refine g_icmp_ne (tgt := 109) X (by first | exact hR91 _ _ | exact hR49 _ _ | exact hR39 _ _ | exact hR24 _ _ | exact hR2 _ _ | exact hR0 _ _ | assumption | (unfold InR; omega)) (by first | exact hR91 _ _ | exact hR49 _ _ | exact hR39 _ _ | exact hR24 _ _ | exact hR2 _ _ | exact hR0 _ _ | assumption | (unfold InR; omega)) dX7_pairOf_101 (by decide) (fun h101 => ?_) (fun h101 => ?_)
              · skip
                refine g_iload5 X dX7_pairOf_109 ?_
                refine g_if_ne (tgt := 118) X (by first | exact hR91 _ _ | exact hR49 _ _ | exact hR39 _ _ | exact hR24 _ _ | exact hR2 _ _ | exact hR0 _ _ | assumption | (unfold InR; omega)) dX7_pairOf_111 (by decide) (fun h111 => ?_) (fun h111 => ?_)
                · skip
                  refine g_iconst X dX7_pairOf_118 ?_
                  exact g_iret X hr (by first | exact hR91 _ _ | exact hR49 _ _ | exact hR39 _ _ | exact hR24 _ _ | exact hR2 _ _ | exact hR0 _ _ | assumption | (unfold InR; omega)) (by first | exact ⟨by rw [if_pos (by omega), if_neg (by omega), if_pos (by omega), if_pos (show x2 < 0 by omega), ← hz65]; first | (rw [if_pos (by omega)]; done) | (rw [if_neg (by omega)]; done), hF.qm.tr hp65.2.qm⟩ | exact ⟨by rw [if_pos (by omega), if_neg (by omega), if_pos (by omega), if_neg (show ¬ x2 < 0 by omega), ← hz74]; first | (rw [if_pos (by omega)]; done) | (rw [if_neg (by omega)]; done), hF.qm.tr hp74.2.qm⟩ | exact ⟨by rw [if_pos (by omega), if_neg (by omega), if_neg (by omega), if_pos (by omega), hz91, hz49], hF.qm.tr hp91.2.qm⟩ | exact ⟨by rw [if_pos (by omega), if_neg (by omega), if_neg (by omega), if_neg (by omega), ← hz91, ← hz49]; first | (rw [if_pos (by omega)]; done) | (rw [if_neg (by omega)]; done), hF.qm.tr hp91.2.qm⟩) dX7_pairOf_119
                · skip
                  refine g_iconst X dX7_pairOf_114 ?_
                  refine g_goto (tgt := 119) X dX7_pairOf_115 (by decide) ?_
                  exact g_iret X hr (by first | exact hR91 _ _ | exact hR49 _ _ | exact hR39 _ _ | exact hR24 _ _ | exact hR2 _ _ | exact hR0 _ _ | assumption | (unfold InR; omega)) (by first | exact ⟨by rw [if_pos (by omega), if_neg (by omega), if_pos (by omega), if_pos (show x2 < 0 by omega), ← hz65]; first | (rw [if_pos (by omega)]; done) | (rw [if_neg (by omega)]; done), hF.qm.tr hp65.2.qm⟩ | exact ⟨by rw [if_pos (by omega), if_neg (by omega), if_pos (by omega), if_neg (show ¬ x2 < 0 by omega), ← hz74]; first | (rw [if_pos (by omega)]; done) | (rw [if_neg (by omega)]; done), hF.qm.tr hp74.2.qm⟩ | exact ⟨by rw [if_pos (by omega), if_neg (by omega), if_neg (by omega), if_pos (by omega), hz91, hz49], hF.qm.tr hp91.2.qm⟩ | exact ⟨by rw [if_pos (by omega), if_neg (by omega), if_neg (by omega), if_neg (by omega), ← hz91, ← hz49]; first | (rw [if_pos (by omega)]; done) | (rw [if_neg (by omega)]; done), hF.qm.tr hp91.2.qm⟩) dX7_pairOf_119
              · skip
                refine g_iload5 X dX7_pairOf_104 ?_
                refine g_goto (tgt := 119) X dX7_pairOf_106 (by decide) ?_
                exact g_iret X hr (by first | exact hR91 _ _ | exact hR49 _ _ | exact hR39 _ _ | exact hR24 _ _ | exact hR2 _ _ | exact hR0 _ _ | assumption | (unfold InR; omega)) (by first | exact ⟨by rw [if_pos (by omega), if_neg (by omega), if_pos (by omega), if_pos (show x2 < 0 by omega), ← hz65]; first | (rw [if_pos (by omega)]; done) | (rw [if_neg (by omega)]; done), hF.qm.tr hp65.2.qm⟩ | exact ⟨by rw [if_pos (by omega), if_neg (by omega), if_pos (by omega), if_neg (show ¬ x2 < 0 by omega), ← hz74]; first | (rw [if_pos (by omega)]; done) | (rw [if_neg (by omega)]; done), hF.qm.tr hp74.2.qm⟩ | exact ⟨by rw [if_pos (by omega), if_neg (by omega), if_neg (by omega), if_pos (by omega), hz91, hz49], hF.qm.tr hp91.2.qm⟩ | exact ⟨by rw [if_pos (by omega), if_neg (by omega), if_neg (by omega), if_neg (by omega), ← hz91, ← hz49]; first | (rw [if_pos (by omega)]; done) | (rw [if_neg (by omega)]; done), hF.qm.tr hp91.2.qm⟩) dX7_pairOf_119
            · skip
              refine g_iload2 X dX7_pairOf_59 ?_
              refine g_if_ge (tgt := 71) X (by first | exact hR49 _ _ | exact hR39 _ _ | exact hR24 _ _ | exact hR2 _ _ | exact hR0 _ _ | assumption | (unfold InR; omega)) dX7_pairOf_60 (by decide) (fun h60 => ?_) (fun h60 => ?_)
              · skip
                refine g_aload0 X dX7_pairOf_71 ?_
                refine g_iload1 X dX7_pairOf_72 ?_
                refine g_iload2 X dX7_pairOf_73 ?_
                refine g_I2 X (k_X7_without E hMf hNf hx1 hx2) gX7_pairOf_X7_without rfl (by decide +kernel) (by decide) ob_79 (Nat.le_of_ble_eq_true rfl) dX7_pairOf_74 (fun z74 σ74 hz74 hp74 => ?_)
                refine g_rg (fun hR74 => ?_)
                have hz74 := hp74.1
                rw [hF.wo] at hz74
                have hwb := woV_b hM x1 x2
                skip
                refine g_iload4 X dX7_pairOf_77 ?_
                refine g_icmp_le (tgt := 86) X (by first | exact hR74 _ _ | exact hR49 _ _ | exact hR39 _ _ | exact hR24 _ _ | exact hR2 _ _ | exact hR0 _ _ | assumption | (unfold InR; omega)) (by first | exact hR74 _ _ | exact hR49 _ _ | exact hR39 _ _ | exact hR24 _ _ | exact hR2 _ _ | exact hR0 _ _ | assumption | (unfold InR; omega)) dX7_pairOf_79 (by decide) (fun h79 => ?_) (fun h79 => ?_)
                · skip
                  refine g_iconst X dX7_pairOf_86 ?_
                  exact g_iret X hr (by first | exact hR74 _ _ | exact hR49 _ _ | exact hR39 _ _ | exact hR24 _ _ | exact hR2 _ _ | exact hR0 _ _ | assumption | (unfold InR; omega)) (by first | exact ⟨by rw [if_pos (by omega), if_neg (by omega), if_pos (by omega), if_pos (show x2 < 0 by omega), ← hz65]; first | (rw [if_pos (by omega)]; done) | (rw [if_neg (by omega)]; done), hF.qm.tr hp65.2.qm⟩ | exact ⟨by rw [if_pos (by omega), if_neg (by omega), if_pos (by omega), if_neg (show ¬ x2 < 0 by omega), ← hz74]; first | (rw [if_pos (by omega)]; done) | (rw [if_neg (by omega)]; done), hF.qm.tr hp74.2.qm⟩ | exact ⟨by rw [if_pos (by omega), if_neg (by omega), if_neg (by omega), if_pos (by omega), hz91, hz49], hF.qm.tr hp91.2.qm⟩ | exact ⟨by rw [if_pos (by omega), if_neg (by omega), if_neg (by omega), if_neg (by omega), ← hz91, ← hz49]; first | (rw [if_pos (by omega)]; done) | (rw [if_neg (by omega)]; done), hF.qm.tr hp91.2.qm⟩) dX7_pairOf_87
                · skip
                  refine g_iconst X dX7_pairOf_82 ?_
                  refine g_goto (tgt := 87) X dX7_pairOf_83 (by decide) ?_
                  exact g_iret X hr (by first | exact hR74 _ _ | exact hR49 _ _ | exact hR39 _ _ | exact hR24 _ _ | exact hR2 _ _ | exact hR0 _ _ | assumption | (unfold InR; omega)) (by first | exact ⟨by rw [if_pos (by omega), if_neg (by omega), if_pos (by omega), if_pos (show x2 < 0 by omega), ← hz65]; first | (rw [if_pos (by omega)]; done) | (rw [if_neg (by omega)]; done), hF.qm.tr hp65.2.qm⟩ | exact ⟨by rw [if_pos (by omega), if_neg (by omega), if_pos (by omega), if_neg (show ¬ x2 < 0 by omega), ← hz74]; first | (rw [if_pos (by omega)]; done) | (rw [if_neg (by omega)]; done), hF.qm.tr hp74.2.qm⟩ | exact ⟨by rw [if_pos (by omega), if_neg (by omega), if_neg (by omega), if_pos (by omega), hz91, hz49], hF.qm.tr hp91.2.qm⟩ | exact ⟨by rw [if_pos (by omega), if_neg (by omega), if_neg (by omega), if_neg (by omega), ← hz91, ← hz49]; first | (rw [if_pos (by omega)]; done) | (rw [if_neg (by omega)]; done), hF.qm.tr hp91.2.qm⟩) dX7_pairOf_87
              · skip
                refine g_aload0 X dX7_pairOf_63 ?_
                refine g_iload1 X dX7_pairOf_64 ?_
                refine g_I1 X (k_X7_busy E hMf (by omega)) gX7_pairOf_X7_busy rfl (by decide +kernel) (by decide) ob_79 (Nat.le_of_ble_eq_true rfl) dX7_pairOf_65 (fun z65 σ65 hz65 hp65 => ?_)
                refine g_rg (fun hR65 => ?_)
                have hz65 := hp65.1
                rw [hF.bu] at hz65
                have hbb := buV_b hM (w := x1) (by omega) (σ 80 1).toNat (by omega)
                rw [Int.toNat_of_nonneg hn.1] at hbb
                have hq := hF.qm.tr hp65.2.qm
                refine g_goto (tgt := 77) X dX7_pairOf_68 (by decide) ?_
                skip
                refine g_iload4 X dX7_pairOf_77 ?_
                refine g_icmp_le (tgt := 86) X (by first | exact hR65 _ _ | exact hR49 _ _ | exact hR39 _ _ | exact hR24 _ _ | exact hR2 _ _ | exact hR0 _ _ | assumption | (unfold InR; omega)) (by first | exact hR65 _ _ | exact hR49 _ _ | exact hR39 _ _ | exact hR24 _ _ | exact hR2 _ _ | exact hR0 _ _ | assumption | (unfold InR; omega)) dX7_pairOf_79 (by decide) (fun h79 => ?_) (fun h79 => ?_)
                · skip
                  refine g_iconst X dX7_pairOf_86 ?_
                  exact g_iret X hr (by first | exact hR65 _ _ | exact hR49 _ _ | exact hR39 _ _ | exact hR24 _ _ | exact hR2 _ _ | exact hR0 _ _ | assumption | (unfold InR; omega)) (by first | exact ⟨by rw [if_pos (by omega), if_neg (by omega), if_pos (by omega), if_pos (show x2 < 0 by omega), ← hz65]; first | (rw [if_pos (by omega)]; done) | (rw [if_neg (by omega)]; done), hF.qm.tr hp65.2.qm⟩ | exact ⟨by rw [if_pos (by omega), if_neg (by omega), if_pos (by omega), if_neg (show ¬ x2 < 0 by omega), ← hz74]; first | (rw [if_pos (by omega)]; done) | (rw [if_neg (by omega)]; done), hF.qm.tr hp74.2.qm⟩ | exact ⟨by rw [if_pos (by omega), if_neg (by omega), if_neg (by omega), if_pos (by omega), hz91, hz49], hF.qm.tr hp91.2.qm⟩ | exact ⟨by rw [if_pos (by omega), if_neg (by omega), if_neg (by omega), if_neg (by omega), ← hz91, ← hz49]; first | (rw [if_pos (by omega)]; done) | (rw [if_neg (by omega)]; done), hF.qm.tr hp91.2.qm⟩) dX7_pairOf_87
                · skip
                  refine g_iconst X dX7_pairOf_82 ?_
                  refine g_goto (tgt := 87) X dX7_pairOf_83 (by decide) ?_
                  exact g_iret X hr (by first | exact hR65 _ _ | exact hR49 _ _ | exact hR39 _ _ | exact hR24 _ _ | exact hR2 _ _ | exact hR0 _ _ | assumption | (unfold InR; omega)) (by first | exact ⟨by rw [if_pos (by omega), if_neg (by omega), if_pos (by omega), if_pos (show x2 < 0 by omega), ← hz65]; first | (rw [if_pos (by omega)]; done) | (rw [if_neg (by omega)]; done), hF.qm.tr hp65.2.qm⟩ | exact ⟨by rw [if_pos (by omega), if_neg (by omega), if_pos (by omega), if_neg (show ¬ x2 < 0 by omega), ← hz74]; first | (rw [if_pos (by omega)]; done) | (rw [if_neg (by omega)]; done), hF.qm.tr hp74.2.qm⟩ | exact ⟨by rw [if_pos (by omega), if_neg (by omega), if_neg (by omega), if_pos (by omega), hz91, hz49], hF.qm.tr hp91.2.qm⟩ | exact ⟨by rw [if_pos (by omega), if_neg (by omega), if_neg (by omega), if_neg (by omega), ← hz91, ← hz49]; first | (rw [if_pos (by omega)]; done) | (rw [if_neg (by omega)]; done), hF.qm.tr hp91.2.qm⟩) dX7_pairOf_87
          · skip
            refine g_bipush X dX7_pairOf_45 (by decide +kernel) ?_
            exact g_iret X hr (by first | exact hR39 _ _ | exact hR24 _ _ | exact hR2 _ _ | exact hR0 _ _ | assumption | (unfold InR; omega)) ⟨by first | (exfalso; omega) | rw [if_pos (by omega), if_pos (by omega)], QM.rf⟩ dX7_pairOf_47
      · skip
        refine g_iconst X dX7_pairOf_30 ?_
        exact g_iret X hr (by first | exact hR24 _ _ | exact hR2 _ _ | exact hR0 _ _ | assumption | (unfold InR; omega)) ⟨by rw [if_neg (by omega)], QM.rf⟩ dX7_pairOf_31
    · skip
      refine g_aload0 X dX7_pairOf_13 ?_
      refine g_iload2 X dX7_pairOf_14 ?_
      refine g_F1 X (k_X7_isTask E hM hx2) gX7_pairOf_X7_isTask rfl (by decide +kernel) (by decide) ob_79 (Nat.le_of_ble_eq_true rfl) dX7_pairOf_15 (fun hz15 => ?_)
      refine g_rg (fun hR15 => ?_)
      refine g_if_eq (tgt := 30) X (by first | exact hR15 _ _ | exact hR2 _ _ | exact hR0 _ _ | assumption | (unfold InR; omega)) dX7_pairOf_18 (by decide) (fun h18 => ?_) (fun h18 => ?_)
      · skip
        refine g_iconst X dX7_pairOf_30 ?_
        exact g_iret X hr (by first | exact hR15 _ _ | exact hR2 _ _ | exact hR0 _ _ | assumption | (unfold InR; omega)) ⟨by rw [if_neg (by omega)], QM.rf⟩ dX7_pairOf_31
      · skip
        refine g_iload3 X dX7_pairOf_21 ?_
        refine g_iconst X dX7_pairOf_22 ?_
        refine g_iconst X dX7_pairOf_23 ?_
        refine g_SF3 X (k_X7_in E (by first | assumption | (unfold InR; omega)) (by first | assumption | (unfold InR; omega)) (by first | assumption | (unfold InR; omega))) gX7_pairOf_X7_in rfl (by decide +kernel) (by decide) (Nat.le_of_ble_eq_true rfl) dX7_pairOf_24 (fun hz24 => ?_)
        refine g_rg (fun hR24 => ?_)
        refine g_if_ne (tgt := 32) X (by first | exact hR24 _ _ | exact hR15 _ _ | exact hR2 _ _ | exact hR0 _ _ | assumption | (unfold InR; omega)) dX7_pairOf_27 (by decide) (fun h27 => ?_) (fun h27 => ?_)
        · skip
          refine g_iload2 X dX7_pairOf_32 ?_
          refine g_if_lt (tgt := 48) X (by first | exact hR24 _ _ | exact hR15 _ _ | exact hR2 _ _ | exact hR0 _ _ | assumption | (unfold InR; omega)) dX7_pairOf_33 (by decide) (fun h33 => ?_) (fun h33 => ?_)
          · skip
            refine g_aload0 X dX7_pairOf_48 ?_
            refine g_I0 X (k_X7_leastTotal E hM) gX7_pairOf_X7_leastTotal rfl (by decide +kernel) (by decide) ob_79 (Nat.le_of_ble_eq_true rfl) dX7_pairOf_49 (fun z49 σ49 hz49 hp49 => ?_)
            refine g_rg (fun hR49 => ?_)
            have hz49 := hp49.1
            have hF := hp49.2
            have hMf := hF.mt hM
            have hNf := hF.n4 hN
            have g0 : σ49 80 0 = σ 80 0 := hF _ _ (by omega)
            have g1 : σ49 80 1 = σ 80 1 := hF _ _ (by omega)
            refine g_istore4 X dX7_pairOf_52 (by decide) (by first | exact Or.inl rfl | exact Or.inr ⟨_, rfl, rfl⟩) ?_
            refine g_iload3 X dX7_pairOf_54 ?_
            refine g_iconst X dX7_pairOf_55 ?_
            refine g_icmp_ne (tgt := 88) X (by first | exact hR49 _ _ | exact hR24 _ _ | exact hR15 _ _ | exact hR2 _ _ | exact hR0 _ _ | assumption | (unfold InR; omega)) (by first | exact hR49 _ _ | exact hR24 _ _ | exact hR15 _ _ | exact hR2 _ _ | exact hR0 _ _ | assumption | (unfold InR; omega)) dX7_pairOf_56 (by decide) (fun h56 => ?_) (fun h56 => ?_)
            · skip
              refine g_aload0 X dX7_pairOf_88 ?_
              refine g_iload1 X dX7_pairOf_89 ?_
              refine g_iload2 X dX7_pairOf_90 ?_
              refine g_I2 X (k_X7_with E hMf (by omega) (by omega)) gX7_pairOf_X7_with rfl (by decide +kernel) (by decide) ob_79 (Nat.le_of_ble_eq_true rfl) dX7_pairOf_91 (fun z91 σ91 hz91 hp91 => ?_)
              refine g_rg (fun hR91 => ?_)
              have hz91 := hp91.1
              rw [wiV_F hF] at hz91
              have hwb := wiV_b hM (w := x1) (t := x2) (by omega) (by omega)
              refine g_iload4 X dX7_pairOf_94 ?_
              refine g_isub X dX7_pairOf_96 ?_
              refine g_istore5 X dX7_pairOf_97 (by decide) (by first | exact Or.inl rfl | exact Or.inr ⟨_, rfl, rfl⟩) ?_
              refine g_iload3 X dX7_pairOf_99 ?_
              refine g_iconst X dX7_pairOf_100 ?_
              refine g_icmp_ne (tgt := 109) X (by first | exact hR91 _ _ | exact hR49 _ _ | exact hR24 _ _ | exact hR15 _ _ | exact hR2 _ _ | exact hR0 _ _ | assumption | (unfold InR; omega)) (by first | exact hR91 _ _ | exact hR49 _ _ | exact hR24 _ _ | exact hR15 _ _ | exact hR2 _ _ | exact hR0 _ _ | assumption | (unfold InR; omega)) dX7_pairOf_101 (by decide) (fun h101 => ?_) (fun h101 => ?_)
              · skip
                refine g_iload5 X dX7_pairOf_109 ?_
                refine g_if_ne (tgt := 118) X (by first | exact hR91 _ _ | exact hR49 _ _ | exact hR24 _ _ | exact hR15 _ _ | exact hR2 _ _ | exact hR0 _ _ | assumption | (unfold InR; omega)) dX7_pairOf_111 (by decide) (fun h111 => ?_) (fun h111 => ?_)
                · skip
                  refine g_iconst X dX7_pairOf_118 ?_
                  exact g_iret X hr (by first | exact hR91 _ _ | exact hR49 _ _ | exact hR24 _ _ | exact hR15 _ _ | exact hR2 _ _ | exact hR0 _ _ | assumption | (unfold InR; omega)) (by first | exact ⟨by rw [if_pos (by omega), if_neg (by omega), if_pos (by omega), if_pos (show x2 < 0 by omega), ← hz65]; first | (rw [if_pos (by omega)]; done) | (rw [if_neg (by omega)]; done), hF.qm.tr hp65.2.qm⟩ | exact ⟨by rw [if_pos (by omega), if_neg (by omega), if_pos (by omega), if_neg (show ¬ x2 < 0 by omega), ← hz74]; first | (rw [if_pos (by omega)]; done) | (rw [if_neg (by omega)]; done), hF.qm.tr hp74.2.qm⟩ | exact ⟨by rw [if_pos (by omega), if_neg (by omega), if_neg (by omega), if_pos (by omega), hz91, hz49], hF.qm.tr hp91.2.qm⟩ | exact ⟨by rw [if_pos (by omega), if_neg (by omega), if_neg (by omega), if_neg (by omega), ← hz91, ← hz49]; first | (rw [if_pos (by omega)]; done) | (rw [if_neg (by omega)]; done), hF.qm.tr hp91.2.qm⟩) dX7_pairOf_119
                · skip
                  refine g_iconst X dX7_pairOf_114 ?_
                  refine g_goto (tgt := 119) X dX7_pairOf_115 (by decide) ?_
                  exact g_iret X hr (by first | exact hR91 _ _ | exact hR49 _ _ | exact hR24 _ _ | exact hR15 _ _ | exact hR2 _ _ | exact hR0 _ _ | assumption | (unfold InR; omega)) (by first | exact ⟨by rw [if_pos (by omega), if_neg (by omega), if_pos (by omega), if_pos (show x2 < 0 by omega), ← hz65]; first | (rw [if_pos (by omega)]; done) | (rw [if_neg (by omega)]; done), hF.qm.tr hp65.2.qm⟩ | exact ⟨by rw [if_pos (by omega), if_neg (by omega), if_pos (by omega), if_neg (show ¬ x2 < 0 by omega), ← hz74]; first | (rw [if_pos (by omega)]; done) | (rw [if_neg (by omega)]; done), hF.qm.tr hp74.2.qm⟩ | exact ⟨by rw [if_pos (by omega), if_neg (by omega), if_neg (by omega), if_pos (by omega), hz91, hz49], hF.qm.tr hp91.2.qm⟩ | exact ⟨by rw [if_pos (by omega), if_neg (by omega), if_neg (by omega), if_neg (by omega), ← hz91, ← hz49]; first | (rw [if_pos (by omega)]; done) | (rw [if_neg (by omega)]; done), hF.qm.tr hp91.2.qm⟩) dX7_pairOf_119
              · skip
                refine g_iload5 X dX7_pairOf_104 ?_
                refine g_goto (tgt := 119) X dX7_pairOf_106 (by decide) ?_
                exact g_iret X hr (by first | exact hR91 _ _ | exact hR49 _ _ | exact hR24 _ _ | exact hR15 _ _ | exact hR2 _ _ | exact hR0 _ _ | assumption | (unfold InR; omega)) (by first | exact ⟨by rw [if_pos (by omega), if_neg (by omega), if_pos (by omega), if_pos (show x2 < 0 by omega), ← hz65]; first | (rw [if_pos (by omega)]; done) | (rw [if_neg (by omega)]; done), hF.qm.tr hp65.2.qm⟩ | exact ⟨by rw [if_pos (by omega), if_neg (by omega), if_pos (by omega), if_neg (show ¬ x2 < 0 by omega), ← hz74]; first | (rw [if_pos (by omega)]; done) | (rw [if_neg (by omega)]; done), hF.qm.tr hp74.2.qm⟩ | exact ⟨by rw [if_pos (by omega), if_neg (by omega), if_neg (by omega), if_pos (by omega), hz91, hz49], hF.qm.tr hp91.2.qm⟩ | exact ⟨by rw [if_pos (by omega), if_neg (by omega), if_neg (by omega), if_neg (by omega), ← hz91, ← hz49]; first | (rw [if_pos (by omega)]; done) | (rw [if_neg (by omega)]; done), hF.qm.tr hp91.2.qm⟩) dX7_pairOf_119
            · skip
              refine g_iload2 X dX7_pairOf_59 ?_
              refine g_if_ge (tgt := 71) X (by first | exact hR49 _ _ | exact hR24 _ _ | exact hR15 _ _ | exact hR2 _ _ | exact hR0 _ _ | assumption | (unfold InR; omega)) dX7_pairOf_60 (by decide) (fun h60 => ?_) (fun h60 => ?_)
              · skip
                refine g_aload0 X dX7_pairOf_71 ?_
                refine g_iload1 X dX7_pairOf_72 ?_
                refine g_iload2 X dX7_pairOf_73 ?_
                refine g_I2 X (k_X7_without E hMf hNf hx1 hx2) gX7_pairOf_X7_without rfl (by decide +kernel) (by decide) ob_79 (Nat.le_of_ble_eq_true rfl) dX7_pairOf_74 (fun z74 σ74 hz74 hp74 => ?_)
                refine g_rg (fun hR74 => ?_)
                have hz74 := hp74.1
                rw [hF.wo] at hz74
                have hwb := woV_b hM x1 x2
                skip
                refine g_iload4 X dX7_pairOf_77 ?_
                refine g_icmp_le (tgt := 86) X (by first | exact hR74 _ _ | exact hR49 _ _ | exact hR24 _ _ | exact hR15 _ _ | exact hR2 _ _ | exact hR0 _ _ | assumption | (unfold InR; omega)) (by first | exact hR74 _ _ | exact hR49 _ _ | exact hR24 _ _ | exact hR15 _ _ | exact hR2 _ _ | exact hR0 _ _ | assumption | (unfold InR; omega)) dX7_pairOf_79 (by decide) (fun h79 => ?_) (fun h79 => ?_)
                · skip
                  refine g_iconst X dX7_pairOf_86 ?_
                  exact g_iret X hr (by first | exact hR74 _ _ | exact hR49 _ _ | exact hR24 _ _ | exact hR15 _ _ | exact hR2 _ _ | exact hR0 _ _ | assumption | (unfold InR; omega)) (by first | exact ⟨by rw [if_pos (by omega), if_neg (by omega), if_pos (by omega), if_pos (show x2 < 0 by omega), ← hz65]; first | (rw [if_pos (by omega)]; done) | (rw [if_neg (by omega)]; done), hF.qm.tr hp65.2.qm⟩ | exact ⟨by rw [if_pos (by omega), if_neg (by omega), if_pos (by omega), if_neg (show ¬ x2 < 0 by omega), ← hz74]; first | (rw [if_pos (by omega)]; done) | (rw [if_neg (by omega)]; done), hF.qm.tr hp74.2.qm⟩ | exact ⟨by rw [if_pos (by omega), if_neg (by omega), if_neg (by omega), if_pos (by omega), hz91, hz49], hF.qm.tr hp91.2.qm⟩ | exact ⟨by rw [if_pos (by omega), if_neg (by omega), if_neg (by omega), if_neg (by omega), ← hz91, ← hz49]; first | (rw [if_pos (by omega)]; done) | (rw [if_neg (by omega)]; done), hF.qm.tr hp91.2.qm⟩) dX7_pairOf_87
                · skip
                  refine g_iconst X dX7_pairOf_82 ?_
                  refine g_goto (tgt := 87) X dX7_pairOf_83 (by decide) ?_
                  exact g_iret X hr (by first | exact hR74 _ _ | exact hR49 _ _ | exact hR24 _ _ | exact hR15 _ _ | exact hR2 _ _ | exact hR0 _ _ | assumption | (unfold InR; omega)) (by first | exact ⟨by rw [if_pos (by omega), if_neg (by omega), if_pos (by omega), if_pos (show x2 < 0 by omega), ← hz65]; first | (rw [if_pos (by omega)]; done) | (rw [if_neg (by omega)]; done), hF.qm.tr hp65.2.qm⟩ | exact ⟨by rw [if_pos (by omega), if_neg (by omega), if_pos (by omega), if_neg (show ¬ x2 < 0 by omega), ← hz74]; first | (rw [if_pos (by omega)]; done) | (rw [if_neg (by omega)]; done), hF.qm.tr hp74.2.qm⟩ | exact ⟨by rw [if_pos (by omega), if_neg (by omega), if_neg (by omega), if_pos (by omega), hz91, hz49], hF.qm.tr hp91.2.qm⟩ | exact ⟨by rw [if_pos (by omega), if_neg (by omega), if_neg (by omega), if_neg (by omega), ← hz91, ← hz49]; first | (rw [if_pos (by omega)]; done) | (rw [if_neg (by omega)]; done), hF.qm.tr hp91.2.qm⟩) dX7_pairOf_87
              · skip
                refine g_aload0 X dX7_pairOf_63 ?_
                refine g_iload1 X dX7_pairOf_64 ?_
                refine g_I1 X (k_X7_busy E hMf (by omega)) gX7_pairOf_X7_busy rfl (by decide +kernel) (by decide) ob_79 (Nat.le_of_ble_eq_true rfl) dX7_pairOf_65 (fun z65 σ65 hz65 hp65 => ?_)
                refine g_rg (fun hR65 => ?_)
                have hz65 := hp65.1
                rw [hF.bu] at hz65
                have hbb := buV_b hM (w := x1) (by omega) (σ 80 1).toNat (by omega)
                rw [Int.toNat_of_nonneg hn.1] at hbb
                have hq := hF.qm.tr hp65.2.qm
                refine g_goto (tgt := 77) X dX7_pairOf_68 (by decide) ?_
                skip
                refine g_iload4 X dX7_pairOf_77 ?_
                refine g_icmp_le (tgt := 86) X (by first | exact hR65 _ _ | exact hR49 _ _ | exact hR24 _ _ | exact hR15 _ _ | exact hR2 _ _ | exact hR0 _ _ | assumption | (unfold InR; omega)) (by first | exact hR65 _ _ | exact hR49 _ _ | exact hR24 _ _ | exact hR15 _ _ | exact hR2 _ _ | exact hR0 _ _ | assumption | (unfold InR; omega)) dX7_pairOf_79 (by decide) (fun h79 => ?_) (fun h79 => ?_)
                · skip
                  refine g_iconst X dX7_pairOf_86 ?_
                  exact g_iret X hr (by first | exact hR65 _ _ | exact hR49 _ _ | exact hR24 _ _ | exact hR15 _ _ | exact hR2 _ _ | exact hR0 _ _ | assumption | (unfold InR; omega)) (by first | exact ⟨by rw [if_pos (by omega), if_neg (by omega), if_pos (by omega), if_pos (show x2 < 0 by omega), ← hz65]; first | (rw [if_pos (by omega)]; done) | (rw [if_neg (by omega)]; done), hF.qm.tr hp65.2.qm⟩ | exact ⟨by rw [if_pos (by omega), if_neg (by omega), if_pos (by omega), if_neg (show ¬ x2 < 0 by omega), ← hz74]; first | (rw [if_pos (by omega)]; done) | (rw [if_neg (by omega)]; done), hF.qm.tr hp74.2.qm⟩ | exact ⟨by rw [if_pos (by omega), if_neg (by omega), if_neg (by omega), if_pos (by omega), hz91, hz49], hF.qm.tr hp91.2.qm⟩ | exact ⟨by rw [if_pos (by omega), if_neg (by omega), if_neg (by omega), if_neg (by omega), ← hz91, ← hz49]; first | (rw [if_pos (by omega)]; done) | (rw [if_neg (by omega)]; done), hF.qm.tr hp91.2.qm⟩) dX7_pairOf_87
                · skip
                  refine g_iconst X dX7_pairOf_82 ?_
                  refine g_goto (tgt := 87) X dX7_pairOf_83 (by decide) ?_
                  exact g_iret X hr (by first | exact hR65 _ _ | exact hR49 _ _ | exact hR24 _ _ | exact hR15 _ _ | exact hR2 _ _ | exact hR0 _ _ | assumption | (unfold InR; omega)) (by first | exact ⟨by rw [if_pos (by omega), if_neg (by omega), if_pos (by omega), if_pos (show x2 < 0 by omega), ← hz65]; first | (rw [if_pos (by omega)]; done) | (rw [if_neg (by omega)]; done), hF.qm.tr hp65.2.qm⟩ | exact ⟨by rw [if_pos (by omega), if_neg (by omega), if_pos (by omega), if_neg (show ¬ x2 < 0 by omega), ← hz74]; first | (rw [if_pos (by omega)]; done) | (rw [if_neg (by omega)]; done), hF.qm.tr hp74.2.qm⟩ | exact ⟨by rw [if_pos (by omega), if_neg (by omega), if_neg (by omega), if_pos (by omega), hz91, hz49], hF.qm.tr hp91.2.qm⟩ | exact ⟨by rw [if_pos (by omega), if_neg (by omega), if_neg (by omega), if_neg (by omega), ← hz91, ← hz49]; first | (rw [if_pos (by omega)]; done) | (rw [if_neg (by omega)]; done), hF.qm.tr hp91.2.qm⟩) dX7_pairOf_87
          · skip
            refine g_aload0 X dX7_pairOf_36 ?_
            refine g_iload1 X dX7_pairOf_37 ?_
            refine g_iload2 X dX7_pairOf_38 ?_
            refine g_F2 X (k_X7_of E (by omega) (by omega)) gX7_pairOf_X7_of rfl (by decide +kernel) (by decide) ob_79 (Nat.le_of_ble_eq_true rfl) dX7_pairOf_39 (fun hz39 => ?_)
            refine g_rg (fun hR39 => ?_)
            refine g_if_ge (tgt := 48) X (by first | exact hR39 _ _ | exact hR24 _ _ | exact hR15 _ _ | exact hR2 _ _ | exact hR0 _ _ | assumption | (unfold InR; omega)) dX7_pairOf_42 (by decide) (fun h42 => ?_) (fun h42 => ?_)
            · skip
              refine g_aload0 X dX7_pairOf_48 ?_
              refine g_I0 X (k_X7_leastTotal E hM) gX7_pairOf_X7_leastTotal rfl (by decide +kernel) (by decide) ob_79 (Nat.le_of_ble_eq_true rfl) dX7_pairOf_49 (fun z49 σ49 hz49 hp49 => ?_)
              refine g_rg (fun hR49 => ?_)
              have hz49 := hp49.1
              have hF := hp49.2
              have hMf := hF.mt hM
              have hNf := hF.n4 hN
              have g0 : σ49 80 0 = σ 80 0 := hF _ _ (by omega)
              have g1 : σ49 80 1 = σ 80 1 := hF _ _ (by omega)
              refine g_istore4 X dX7_pairOf_52 (by decide) (by first | exact Or.inl rfl | exact Or.inr ⟨_, rfl, rfl⟩) ?_
              refine g_iload3 X dX7_pairOf_54 ?_
              refine g_iconst X dX7_pairOf_55 ?_
              refine g_icmp_ne (tgt := 88) X (by first | exact hR49 _ _ | exact hR39 _ _ | exact hR24 _ _ | exact hR15 _ _ | exact hR2 _ _ | exact hR0 _ _ | assumption | (unfold InR; omega)) (by first | exact hR49 _ _ | exact hR39 _ _ | exact hR24 _ _ | exact hR15 _ _ | exact hR2 _ _ | exact hR0 _ _ | assumption | (unfold InR; omega)) dX7_pairOf_56 (by decide) (fun h56 => ?_) (fun h56 => ?_)
              · skip
                refine g_aload0 X dX7_pairOf_88 ?_
                refine g_iload1 X dX7_pairOf_89 ?_
                refine g_iload2 X dX7_pairOf_90 ?_
                refine g_I2 X (k_X7_with E hMf (by omega) (by omega)) gX7_pairOf_X7_with rfl (by decide +kernel) (by decide) ob_79 (Nat.le_of_ble_eq_true rfl) dX7_pairOf_91 (fun z91 σ91 hz91 hp91 => ?_)
                refine g_rg (fun hR91 => ?_)
                have hz91 := hp91.1
                rw [wiV_F hF] at hz91
                have hwb := wiV_b hM (w := x1) (t := x2) (by omega) (by omega)
                refine g_iload4 X dX7_pairOf_94 ?_
                refine g_isub X dX7_pairOf_96 ?_
                refine g_istore5 X dX7_pairOf_97 (by decide) (by first | exact Or.inl rfl | exact Or.inr ⟨_, rfl, rfl⟩) ?_
                refine g_iload3 X dX7_pairOf_99 ?_
                refine g_iconst X dX7_pairOf_100 ?_
                refine g_icmp_ne (tgt := 109) X (by first | exact hR91 _ _ | exact hR49 _ _ | exact hR39 _ _ | exact hR24 _ _ | exact hR15 _ _ | exact hR2 _ _ | exact hR0 _ _ | assumption | (unfold InR; omega)) (by first | exact hR91 _ _ | exact hR49 _ _ | exact hR39 _ _ | exact hR24 _ _ | exact hR15 _ _ | exact hR2 _ _ | exact hR0 _ _ | assumption | (unfold InR; omega)) dX7_pairOf_101 (by decide) (fun h101 => ?_) (fun h101 => ?_)
                · skip
                  refine g_iload5 X dX7_pairOf_109 ?_
                  refine g_if_ne (tgt := 118) X (by first | exact hR91 _ _ | exact hR49 _ _ | exact hR39 _ _ | exact hR24 _ _ | exact hR15 _ _ | exact hR2 _ _ | exact hR0 _ _ | assumption | (unfold InR; omega)) dX7_pairOf_111 (by decide) (fun h111 => ?_) (fun h111 => ?_)
                  · skip
                    refine g_iconst X dX7_pairOf_118 ?_
                    exact g_iret X hr (by first | exact hR91 _ _ | exact hR49 _ _ | exact hR39 _ _ | exact hR24 _ _ | exact hR15 _ _ | exact hR2 _ _ | exact hR0 _ _ | assumption | (unfold InR; omega)) (by first | exact ⟨by rw [if_pos (by omega), if_neg (by omega), if_pos (by omega), if_pos (show x2 < 0 by omega), ← hz65]; first | (rw [if_pos (by omega)]; done) | (rw [if_neg (by omega)]; done), hF.qm.tr hp65.2.qm⟩ | exact ⟨by rw [if_pos (by omega), if_neg (by omega), if_pos (by omega), if_neg (show ¬ x2 < 0 by omega), ← hz74]; first | (rw [if_pos (by omega)]; done) | (rw [if_neg (by omega)]; done), hF.qm.tr hp74.2.qm⟩ | exact ⟨by rw [if_pos (by omega), if_neg (by omega), if_neg (by omega), if_pos (by omega), hz91, hz49], hF.qm.tr hp91.2.qm⟩ | exact ⟨by rw [if_pos (by omega), if_neg (by omega), if_neg (by omega), if_neg (by omega), ← hz91, ← hz49]; first | (rw [if_pos (by omega)]; done) | (rw [if_neg (by omega)]; done), hF.qm.tr hp91.2.qm⟩) dX7_pairOf_119
                  · skip
                    refine g_iconst X dX7_pairOf_114 ?_
                    refine g_goto (tgt := 119) X dX7_pairOf_115 (by decide) ?_
                    exact g_iret X hr (by first | exact hR91 _ _ | exact hR49 _ _ | exact hR39 _ _ | exact hR24 _ _ | exact hR15 _ _ | exact hR2 _ _ | exact hR0 _ _ | assumption | (unfold InR; omega)) (by first | exact ⟨by rw [if_pos (by omega), if_neg (by omega), if_pos (by omega), if_pos (show x2 < 0 by omega), ← hz65]; first | (rw [if_pos (by omega)]; done) | (rw [if_neg (by omega)]; done), hF.qm.tr hp65.2.qm⟩ | exact ⟨by rw [if_pos (by omega), if_neg (by omega), if_pos (by omega), if_neg (show ¬ x2 < 0 by omega), ← hz74]; first | (rw [if_pos (by omega)]; done) | (rw [if_neg (by omega)]; done), hF.qm.tr hp74.2.qm⟩ | exact ⟨by rw [if_pos (by omega), if_neg (by omega), if_neg (by omega), if_pos (by omega), hz91, hz49], hF.qm.tr hp91.2.qm⟩ | exact ⟨by rw [if_pos (by omega), if_neg (by omega), if_neg (by omega), if_neg (by omega), ← hz91, ← hz49]; first | (rw [if_pos (by omega)]; done) | (rw [if_neg (by omega)]; done), hF.qm.tr hp91.2.qm⟩) dX7_pairOf_119
                · skip
                  refine g_iload5 X dX7_pairOf_104 ?_
                  refine g_goto (tgt := 119) X dX7_pairOf_106 (by decide) ?_
                  exact g_iret X hr (by first | exact hR91 _ _ | exact hR49 _ _ | exact hR39 _ _ | exact hR24 _ _ | exact hR15 _ _ | exact hR2 _ _ | exact hR0 _ _ | assumption | (unfold InR; omega)) (by first | exact ⟨by rw [if_pos (by omega), if_neg (by omega), if_pos (by omega), if_pos (show x2 < 0 by omega), ← hz65]; first | (rw [if_pos (by omega)]; done) | (rw [if_neg (by omega)]; done), hF.qm.tr hp65.2.qm⟩ | exact ⟨by rw [if_pos (by omega), if_neg (by omega), if_pos (by omega), if_neg (show ¬ x2 < 0 by omega), ← hz74]; first | (rw [if_pos (by omega)]; done) | (rw [if_neg (by omega)]; done), hF.qm.tr hp74.2.qm⟩ | exact ⟨by rw [if_pos (by omega), if_neg (by omega), if_neg (by omega), if_pos (by omega), hz91, hz49], hF.qm.tr hp91.2.qm⟩ | exact ⟨by rw [if_pos (by omega), if_neg (by omega), if_neg (by omega), if_neg (by omega), ← hz91, ← hz49]; first | (rw [if_pos (by omega)]; done) | (rw [if_neg (by omega)]; done), hF.qm.tr hp91.2.qm⟩) dX7_pairOf_119
              · skip
                refine g_iload2 X dX7_pairOf_59 ?_
                refine g_if_ge (tgt := 71) X (by first | exact hR49 _ _ | exact hR39 _ _ | exact hR24 _ _ | exact hR15 _ _ | exact hR2 _ _ | exact hR0 _ _ | assumption | (unfold InR; omega)) dX7_pairOf_60 (by decide) (fun h60 => ?_) (fun h60 => ?_)
                · skip
                  refine g_aload0 X dX7_pairOf_71 ?_
                  refine g_iload1 X dX7_pairOf_72 ?_
                  refine g_iload2 X dX7_pairOf_73 ?_
                  refine g_I2 X (k_X7_without E hMf hNf hx1 hx2) gX7_pairOf_X7_without rfl (by decide +kernel) (by decide) ob_79 (Nat.le_of_ble_eq_true rfl) dX7_pairOf_74 (fun z74 σ74 hz74 hp74 => ?_)
                  refine g_rg (fun hR74 => ?_)
                  have hz74 := hp74.1
                  rw [hF.wo] at hz74
                  have hwb := woV_b hM x1 x2
                  skip
                  refine g_iload4 X dX7_pairOf_77 ?_
                  refine g_icmp_le (tgt := 86) X (by first | exact hR74 _ _ | exact hR49 _ _ | exact hR39 _ _ | exact hR24 _ _ | exact hR15 _ _ | exact hR2 _ _ | exact hR0 _ _ | assumption | (unfold InR; omega)) (by first | exact hR74 _ _ | exact hR49 _ _ | exact hR39 _ _ | exact hR24 _ _ | exact hR15 _ _ | exact hR2 _ _ | exact hR0 _ _ | assumption | (unfold InR; omega)) dX7_pairOf_79 (by decide) (fun h79 => ?_) (fun h79 => ?_)
                  · skip
                    refine g_iconst X dX7_pairOf_86 ?_
                    exact g_iret X hr (by first | exact hR74 _ _ | exact hR49 _ _ | exact hR39 _ _ | exact hR24 _ _ | exact hR15 _ _ | exact hR2 _ _ | exact hR0 _ _ | assumption | (unfold InR; omega)) (by first | exact ⟨by rw [if_pos (by omega), if_neg (by omega), if_pos (by omega), if_pos (show x2 < 0 by omega), ← hz65]; first | (rw [if_pos (by omega)]; done) | (rw [if_neg (by omega)]; done), hF.qm.tr hp65.2.qm⟩ | exact ⟨by rw [if_pos (by omega), if_neg (by omega), if_pos (by omega), if_neg (show ¬ x2 < 0 by omega), ← hz74]; first | (rw [if_pos (by omega)]; done) | (rw [if_neg (by omega)]; done), hF.qm.tr hp74.2.qm⟩ | exact ⟨by rw [if_pos (by omega), if_neg (by omega), if_neg (by omega), if_pos (by omega), hz91, hz49], hF.qm.tr hp91.2.qm⟩ | exact ⟨by rw [if_pos (by omega), if_neg (by omega), if_neg (by omega), if_neg (by omega), ← hz91, ← hz49]; first | (rw [if_pos (by omega)]; done) | (rw [if_neg (by omega)]; done), hF.qm.tr hp91.2.qm⟩) dX7_pairOf_87
                  · skip
                    refine g_iconst X dX7_pairOf_82 ?_
                    refine g_goto (tgt := 87) X dX7_pairOf_83 (by decide) ?_
                    exact g_iret X hr (by first | exact hR74 _ _ | exact hR49 _ _ | exact hR39 _ _ | exact hR24 _ _ | exact hR15 _ _ | exact hR2 _ _ | exact hR0 _ _ | assumption | (unfold InR; omega)) (by first | exact ⟨by rw [if_pos (by omega), if_neg (by omega), if_pos (by omega), if_pos (show x2 < 0 by omega), ← hz65]; first | (rw [if_pos (by omega)]; done) | (rw [if_neg (by omega)]; done), hF.qm.tr hp65.2.qm⟩ | exact ⟨by rw [if_pos (by omega), if_neg (by omega), if_pos (by omega), if_neg (show ¬ x2 < 0 by omega), ← hz74]; first | (rw [if_pos (by omega)]; done) | (rw [if_neg (by omega)]; done), hF.qm.tr hp74.2.qm⟩ | exact ⟨by rw [if_pos (by omega), if_neg (by omega), if_neg (by omega), if_pos (by omega), hz91, hz49], hF.qm.tr hp91.2.qm⟩ | exact ⟨by rw [if_pos (by omega), if_neg (by omega), if_neg (by omega), if_neg (by omega), ← hz91, ← hz49]; first | (rw [if_pos (by omega)]; done) | (rw [if_neg (by omega)]; done), hF.qm.tr hp91.2.qm⟩) dX7_pairOf_87
                · skip
                  refine g_aload0 X dX7_pairOf_63 ?_
                  refine g_iload1 X dX7_pairOf_64 ?_
                  refine g_I1 X (k_X7_busy E hMf (by omega)) gX7_pairOf_X7_busy rfl (by decide +kernel) (by decide) ob_79 (Nat.le_of_ble_eq_true rfl) dX7_pairOf_65 (fun z65 σ65 hz65 hp65 => ?_)
                  refine g_rg (fun hR65 => ?_)
                  have hz65 := hp65.1
                  rw [hF.bu] at hz65
                  have hbb := buV_b hM (w := x1) (by omega) (σ 80 1).toNat (by omega)
                  rw [Int.toNat_of_nonneg hn.1] at hbb
                  have hq := hF.qm.tr hp65.2.qm
                  refine g_goto (tgt := 77) X dX7_pairOf_68 (by decide) ?_
                  skip
                  refine g_iload4 X dX7_pairOf_77 ?_
                  refine g_icmp_le (tgt := 86) X (by first | exact hR65 _ _ | exact hR49 _ _ | exact hR39 _ _ | exact hR24 _ _ | exact hR15 _ _ | exact hR2 _ _ | exact hR0 _ _ | assumption | (unfold InR; omega)) (by first | exact hR65 _ _ | exact hR49 _ _ | exact hR39 _ _ | exact hR24 _ _ | exact hR15 _ _ | exact hR2 _ _ | exact hR0 _ _ | assumption | (unfold InR; omega)) dX7_pairOf_79 (by decide) (fun h79 => ?_) (fun h79 => ?_)
                  · skip
                    refine g_iconst X dX7_pairOf_86 ?_
                    exact g_iret X hr (by first | exact hR65 _ _ | exact hR49 _ _ | exact hR39 _ _ | exact hR24 _ _ | exact hR15 _ _ | exact hR2 _ _ | exact hR0 _ _ | assumption | (unfold InR; omega)) (by first | exact ⟨by rw [if_pos (by omega), if_neg (by omega), if_pos (by omega), if_pos (show x2 < 0 by omega), ← hz65]; first | (rw [if_pos (by omega)]; done) | (rw [if_neg (by omega)]; done), hF.qm.tr hp65.2.qm⟩ | exact ⟨by rw [if_pos (by omega), if_neg (by omega), if_pos (by omega), if_neg (show ¬ x2 < 0 by omega), ← hz74]; first | (rw [if_pos (by omega)]; done) | (rw [if_neg (by omega)]; done), hF.qm.tr hp74.2.qm⟩ | exact ⟨by rw [if_pos (by omega), if_neg (by omega), if_neg (by omega), if_pos (by omega), hz91, hz49], hF.qm.tr hp91.2.qm⟩ | exact ⟨by rw [if_pos (by omega), if_neg (by omega), if_neg (by omega), if_neg (by omega), ← hz91, ← hz49]; first | (rw [if_pos (by omega)]; done) | (rw [if_neg (by omega)]; done), hF.qm.tr hp91.2.qm⟩) dX7_pairOf_87
                  · skip
                    refine g_iconst X dX7_pairOf_82 ?_
                    refine g_goto (tgt := 87) X dX7_pairOf_83 (by decide) ?_
                    exact g_iret X hr (by first | exact hR65 _ _ | exact hR49 _ _ | exact hR39 _ _ | exact hR24 _ _ | exact hR15 _ _ | exact hR2 _ _ | exact hR0 _ _ | assumption | (unfold InR; omega)) (by first | exact ⟨by rw [if_pos (by omega), if_neg (by omega), if_pos (by omega), if_pos (show x2 < 0 by omega), ← hz65]; first | (rw [if_pos (by omega)]; done) | (rw [if_neg (by omega)]; done), hF.qm.tr hp65.2.qm⟩ | exact ⟨by rw [if_pos (by omega), if_neg (by omega), if_pos (by omega), if_neg (show ¬ x2 < 0 by omega), ← hz74]; first | (rw [if_pos (by omega)]; done) | (rw [if_neg (by omega)]; done), hF.qm.tr hp74.2.qm⟩ | exact ⟨by rw [if_pos (by omega), if_neg (by omega), if_neg (by omega), if_pos (by omega), hz91, hz49], hF.qm.tr hp91.2.qm⟩ | exact ⟨by rw [if_pos (by omega), if_neg (by omega), if_neg (by omega), if_neg (by omega), ← hz91, ← hz49]; first | (rw [if_pos (by omega)]; done) | (rw [if_neg (by omega)]; done), hF.qm.tr hp91.2.qm⟩) dX7_pairOf_87
            · skip
              refine g_bipush X dX7_pairOf_45 (by decide +kernel) ?_
              exact g_iret X hr (by first | exact hR39 _ _ | exact hR24 _ _ | exact hR15 _ _ | exact hR2 _ _ | exact hR0 _ _ | assumption | (unfold InR; omega)) ⟨by first | (exfalso; omega) | rw [if_pos (by omega), if_pos (by omega)], QM.rf⟩ dX7_pairOf_47
        · skip
          refine g_iconst X dX7_pairOf_30 ?_
          exact g_iret X hr (by first | exact hR24 _ _ | exact hR15 _ _ | exact hR2 _ _ | exact hR0 _ _ | assumption | (unfold InR; omega)) ⟨by rw [if_neg (by omega)], QM.rf⟩ dX7_pairOf_31

set_option maxHeartbeats 4000000 in
set_option maxRecDepth 100000 in
theorem k_X7_roomOf (E0 : EV) {ad : Int → Nat} {σ : St} {x1 : Int} (hM : MT (σ 80)) (hN : N4 σ) (hw : 0 ≤ x1 ∧ x1 < 7) : MGE E0 yX7_roomOf wsX7_roomOf 5 115 ad σ [.ref (ad 79), .int (iI x1)] (PI (fun z σ' => z = woV σ x1 (σ 84 x1) - totM σ ∧ F83 σ σ')) := by
  refine MGE.of (cc := cX7_roomOf) (maxL := 2) (ret := (some .int)) (own := RX7) [some (.ref (ad 79)), some (.int (iI x1))] (by decide +kernel) rfl rfl (Nat.le_of_ble_eq_true rfl) rfl rfl (fun E X hr => ?_)
  have i7 : ∀ w ∈ wsX70, w ∈ wsX7_roomOf := by decide +kernel
  refine g_rg (fun hR0 => ?_)
  have hm := hM.1
  have hn := hM.2.1
  refine g_aload0 X dX7_roomOf_0 ?_
  refine g_iload1 X dX7_roomOf_1 ?_
  refine g_aload0 X dX7_roomOf_2 ?_
  refine gf_7_plan X i7 (by decide +kernel) dX7_roomOf_3 ?_
  refine g_iload1 X dX7_roomOf_6 ?_
  refine g_iald X (ia_84 (by omega)) dX7_roomOf_7 ?_
  refine g_I2 X (k_X7_without E hM hN (by unfold InR; omega) (hR0 _ _)) gX7_roomOf_X7_without rfl (by decide +kernel) (by decide) ob_79 (Nat.le_of_ble_eq_true rfl) dX7_roomOf_8 (fun z8 σ8 hz8 hp8 => ?_)
  refine g_rg (fun hR8 => ?_)
  have hz8 := hp8.1
  have hwb := woV_b hM x1 (σ 84 x1)
  have htb := totM_b hM
  refine g_aload0 X dX7_roomOf_11 ?_
  refine g_I0 X (k_X7_leastTotal E (hp8.2.mt hM)) gX7_roomOf_X7_leastTotal rfl (by decide +kernel) (by decide) ob_79 (Nat.le_of_ble_eq_true rfl) dX7_roomOf_12 (fun z12 σ12 hz12 hp12 => ?_)
  refine g_rg (fun hR12 => ?_)
  have hz12 := hp12.1
  rw [totM_F hp8.2] at hz12
  refine g_isub X dX7_roomOf_15 ?_
  exact g_iret X hr (by first | exact hR12 _ _ | exact hR8 _ _ | exact hR0 _ _ | assumption | (unfold InR; omega)) ⟨by rw [hz8, hz12], hp8.2.tr hp12.2⟩ dX7_roomOf_16

theorem n4_01 (x : Int) : (x = -1 ∧ n4 x = -4) ∨ (x ≠ -1 ∧ n4 x = x) := by
  unfold n4
  by_cases h : x = -1
  · rw [if_pos h]; exact Or.inl ⟨h, rfl⟩
  · rw [if_neg h]; exact Or.inr ⟨h, rfl⟩
set_option maxHeartbeats 4000000 in
set_option maxRecDepth 100000 in
theorem k_X7_room (E0 : EV) {ad : Int → Nat} {σ : St} {x1 : Int} (hM : MT (σ 80)) (hN : N4 σ) (hx1 : InR x1) : MGE E0 yX7_room wsX7_room 6 136 ad σ [.ref (ad 79), .int (iI x1)] (PI (fun z σ' => z = (if 0 ≤ x1 ∧ x1 < σ 80 0 then (if plM σ x1 = -1 then -4 else woV σ x1 (plM σ x1) - totM σ) else -1) ∧ QM σ σ')) := by
  refine MGE.of (cc := cX7_room) (maxL := 2) (ret := (some .int)) (own := RX7) [some (.ref (ad 79)), some (.int (iI x1))] (by decide +kernel) rfl rfl (Nat.le_of_ble_eq_true rfl) rfl rfl (fun E X hr => ?_)
  have i7 : ∀ w ∈ wsX70, w ∈ wsX7_room := by decide +kernel
  refine g_rg (fun hR0 => ?_)
  have hm := hM.1
  have hn := hM.2.1
  have hw := mW_01 σ x1
  refine g_aload0 X dX7_room_0 ?_
  refine g_iload1 X dX7_room_1 ?_
  refine g_F1 X (k_X7_isWorker E hM hx1) gX7_room_X7_isWorker rfl (by decide +kernel) (by decide) ob_79 (Nat.le_of_ble_eq_true rfl) dX7_room_2 (fun hz2 => ?_)
  refine g_rg (fun hR2 => ?_)
  refine g_if_ne (tgt := 10) X (by first | exact hR2 _ _ | exact hR0 _ _ | assumption | (unfold InR; omega)) dX7_room_5 (by decide) (fun h5 => ?_) (fun h5 => ?_)
  · skip
    refine g_aload0 X dX7_room_10 ?_
    refine g_V0 X (k_X7_plans E hM hN) gX7_room_X7_plans rfl (by decide +kernel) (by decide) ob_79 (Nat.le_of_ble_eq_true rfl) dX7_room_11 (fun σ11 hp11 => ?_)
    refine g_rg (fun hR11 => ?_)
    have hF := hp11.1
    have hpc := hp11.2
    have f80 : ∀ k, σ11 80 k = σ 80 k := fun k => hF _ _ (by omega) (by omega)
    have f0 := f80 0
    have f1 := f80 1
    have hMf := hF.mt hM
    have hNf := hF.n4 hN
    refine g_aload0 X dX7_room_14 ?_
    refine gf_7_plan X i7 (by decide +kernel) dX7_room_15 ?_
    refine g_iload1 X dX7_room_18 ?_
    refine g_iald X (ia_84 (by omega)) dX7_room_19 ?_
    have hpx := hpc x1 (by omega) (by omega)
    have hpr := plM_r (σ := σ) hn.1 x1
    have hn4 := n4_01 (plM σ x1)
    refine g_if_ge (tgt := 28) X (by first | exact hR11 _ _ | exact hR2 _ _ | exact hR0 _ _ | assumption | (unfold InR; omega)) dX7_room_20 (by decide) (fun h20 => ?_) (fun h20 => ?_)
    · skip
      refine g_aload0 X dX7_room_28 ?_
      refine g_iload1 X dX7_room_29 ?_
      refine g_I1 X (k_X7_roomOf E hMf hNf (by omega)) gX7_room_X7_roomOf rfl (by decide +kernel) (by decide) ob_79 (Nat.le_of_ble_eq_true rfl) dX7_room_30 (fun z30 σ30 hz30 hp30 => ?_)
      refine g_rg (fun hR30 => ?_)
      exact g_iret X hr (by first | exact hR30 _ _ | exact hR11 _ _ | exact hR2 _ _ | exact hR0 _ _ | assumption | (unfold InR; omega)) (by first | exact ⟨by rw [if_neg (by omega)], QM.rf⟩ | exact ⟨by rw [if_pos (by omega), if_pos (by omega)], hF.qm⟩ | exact ⟨by rw [if_pos (by omega), if_neg (by omega), hp30.1, hF.wo, hF.tot, hpx, show n4 (plM σ x1) = plM σ x1 by omega], hF.qm.tr hp30.2.qm⟩) dX7_room_33
    · skip
      refine g_bipush X dX7_room_23 (by decide +kernel) ?_
      refine g_goto (tgt := 33) X dX7_room_25 (by decide) ?_
      exact g_iret X hr (by first | exact hR11 _ _ | exact hR2 _ _ | exact hR0 _ _ | assumption | (unfold InR; omega)) (by first | exact ⟨by rw [if_neg (by omega)], QM.rf⟩ | exact ⟨by rw [if_pos (by omega), if_pos (by omega)], hF.qm⟩ | exact ⟨by rw [if_pos (by omega), if_neg (by omega), hp30.1, hF.wo, hF.tot, hpx, show n4 (plM σ x1) = plM σ x1 by omega], hF.qm.tr hp30.2.qm⟩) dX7_room_33
  · skip
    refine g_iconst X dX7_room_8 ?_
    exact g_iret X hr (by first | exact hR2 _ _ | exact hR0 _ _ | assumption | (unfold InR; omega)) (by first | exact ⟨by rw [if_neg (by omega)], QM.rf⟩ | exact ⟨by rw [if_pos (by omega), if_pos (by omega)], hF.qm⟩ | exact ⟨by rw [if_pos (by omega), if_neg (by omega), hp30.1, hF.wo, hF.tot, hpx, show n4 (plM σ x1) = plM σ x1 by omega], hF.qm.tr hp30.2.qm⟩) dX7_room_9

theorem F83.wo2 {σ σ' : St} (h : F83 σ σ') {k : Int} : σ' 84 k = σ 84 k := h _ _ (by omega)
set_option maxHeartbeats 4000000 in
set_option maxRecDepth 100000 in
theorem k_X7_dearest (E0 : EV) {ad : Int → Nat} {σ : St} {x1 : Int} (hM : MT (σ 80)) (hN : N4 σ) (hx1 : InR x1) : MGE E0 yX7_dearest wsX7_dearest 6 136 ad σ [.ref (ad 79), .int (iI x1)] (PI (fun z σ' => z = (if 0 ≤ x1 ∧ x1 ≤ 2 then (if deM σ (σ 80 0) < 0 ∨ x1 = 0 then deM σ (σ 80 0) else if x1 = 1 then n4 (plM σ (deM σ (σ 80 0))) else moM σ (σ 80 0)) else -1) ∧ QM σ σ')) := by
  refine MGE.of (cc := cX7_dearest) (maxL := 6) (ret := (some .int)) (own := RX7) [some (.ref (ad 79)), some (.int (iI x1)), none, none, none, none] (by decide +kernel) rfl rfl (Nat.le_of_ble_eq_true rfl) rfl rfl (fun E X hr => ?_)
  have i7 : ∀ w ∈ wsX70, w ∈ wsX7_dearest := by decide +kernel
  refine g_rg (fun hR0 => ?_)
  have hm := hM.1
  have hn := hM.2.1
  have hc := inB_01 x1 0 2
  refine g_iload1 X dX7_dearest_0 ?_
  refine g_iconst X dX7_dearest_1 ?_
  refine g_iconst X dX7_dearest_2 ?_
  refine g_SF3 X (k_X7_in E (by first | assumption | (unfold InR; omega)) (by first | assumption | (unfold InR; omega)) (by first | assumption | (unfold InR; omega))) gX7_dearest_X7_in rfl (by decide +kernel) (by decide) (Nat.le_of_ble_eq_true rfl) dX7_dearest_3 (fun hz3 => ?_)
  refine g_rg (fun hR3 => ?_)
  refine g_if_ne (tgt := 11) X (by first | exact hR3 _ _ | exact hR0 _ _ | assumption | (unfold InR; omega)) dX7_dearest_6 (by decide) (fun h6 => ?_) (fun h6 => ?_)
  · skip
    refine g_aload0 X dX7_dearest_11 ?_
    refine g_V0 X (k_X7_plans E hM hN) gX7_dearest_X7_plans rfl (by decide +kernel) (by decide) ob_79 (Nat.le_of_ble_eq_true rfl) dX7_dearest_12 (fun σ12 hp12 => ?_)
    refine g_rg (fun hR12 => ?_)
    have hF := hp12.1
    have hpc := hp12.2
    have f80 : ∀ k, σ12 80 k = σ 80 k := fun k => hF _ _ (by omega) (by omega)
    have f0 := f80 0
    have f1 := f80 1
    have hMf := hF.mt hM
    have hNf := hF.n4 hN
    refine g_bipush X dX7_dearest_15 (by decide +kernel) ?_
    refine g_istore2 X dX7_dearest_17 (by decide) (by first | exact Or.inl rfl | exact Or.inr ⟨_, rfl, rfl⟩) ?_
    refine g_iconst X dX7_dearest_18 ?_
    refine g_istore3 X dX7_dearest_19 (by decide) (by first | exact Or.inl rfl | exact Or.inr ⟨_, rfl, rfl⟩) ?_
    refine g_iconst X dX7_dearest_20 ?_
    refine g_istore4 X dX7_dearest_21 (by decide) (by first | exact Or.inl rfl | exact Or.inr ⟨_, rfl, rfl⟩) ?_
    have L23 : ∀ (n23 : Nat) (w f m : Int) (σ1 : St) (u : Option Value), (7 - w).toNat < n23 → (0 ≤ w ∧ w ≤ σ 80 0) → (f = -4 ∨ (0 ≤ f ∧ f < w)) → (-1000000 ≤ m ∧ m ≤ 1000000) → (f = deM σ w) → (m = moM σ w) → (F84 σ σ1) → (∀ j, 0 ≤ j → j < σ 80 0 → σ1 84 j = n4 (plM σ j)) → WG E ad 6 σ1 23 [some (.ref (ad 79)), some (.int (iI x1)), some (.int (iI f)), some (.int (iI m)), some (.int (iI w)), u] [] := by
      intro n23
      induction n23 with
      | zero => intro w f m σ1 u hn; exact absurd hn (Nat.not_lt_zero _)
      | succ n23 ih23 =>
        intro w f m σ1 u hn23 hw hfb hmb hf hm2 hF1 hpc1
        refine g_rg (fun hRL23 => ?_)
        have g0 : σ1 80 0 = σ 80 0 := hF1 _ _ (by omega) (by omega)
        refine g_iload4 X dX7_dearest_23 ?_
        refine g_aload0 X dX7_dearest_25 ?_
        refine gf_7_s X i7 (by decide +kernel) dX7_dearest_26 ?_
        refine g_iconst X dX7_dearest_29 ?_
        refine g_iald X (ia_80 (by omega)) dX7_dearest_30 ?_
        refine g_icmp_ge (tgt := 88) X (by first | exact hRL23 _ _ | exact hR12 _ _ | exact hR3 _ _ | exact hR0 _ _ | assumption | (unfold InR; omega)) (by first | exact hRL23 _ _ | exact hR12 _ _ | exact hR3 _ _ | exact hR0 _ _ | assumption | (unfold InR; omega)) dX7_dearest_31 (by decide) (fun h31 => ?_) (fun h31 => ?_)
        · skip
          have ew : w = σ 80 0 := by omega
          rw [ew] at hf hm2
          refine g_iload2 X dX7_dearest_88 ?_
          refine g_if_lt (tgt := 96) X (by first | exact hRL23 _ _ | exact hR12 _ _ | exact hR3 _ _ | exact hR0 _ _ | assumption | (unfold InR; omega)) dX7_dearest_89 (by decide) (fun h89 => ?_) (fun h89 => ?_)
          · skip
            refine g_iload2 X dX7_dearest_96 ?_
            refine g_goto (tgt := 115) X dX7_dearest_97 (by decide) ?_
            exact g_iret X hr (by first | exact hRL23 _ _ | exact hR12 _ _ | exact hR3 _ _ | exact hR0 _ _ | assumption | (unfold InR; omega)) (by first | exact ⟨by rw [if_neg (by omega)], QM.rf⟩ | exact ⟨by rw [if_pos (by omega), if_pos (by omega), hf], hF1.qm⟩ | exact ⟨by rw [if_pos (by omega), if_neg (by omega), if_pos (by omega), ← hf]; exact hpc1 f (by omega) (by omega), hF1.qm⟩ | exact ⟨by rw [if_pos (by omega), if_neg (by omega), if_neg (by omega), hm2], hF1.qm⟩) dX7_dearest_115
          · skip
            refine g_iload1 X dX7_dearest_92 ?_
            refine g_if_ne (tgt := 100) X (by first | exact hRL23 _ _ | exact hR12 _ _ | exact hR3 _ _ | exact hR0 _ _ | assumption | (unfold InR; omega)) dX7_dearest_93 (by decide) (fun h93 => ?_) (fun h93 => ?_)
            · skip
              refine g_iload1 X dX7_dearest_100 ?_
              refine g_iconst X dX7_dearest_101 ?_
              refine g_icmp_ne (tgt := 114) X (by first | exact hRL23 _ _ | exact hR12 _ _ | exact hR3 _ _ | exact hR0 _ _ | assumption | (unfold InR; omega)) (by first | exact hRL23 _ _ | exact hR12 _ _ | exact hR3 _ _ | exact hR0 _ _ | assumption | (unfold InR; omega)) dX7_dearest_102 (by decide) (fun h102 => ?_) (fun h102 => ?_)
              · skip
                refine g_iload3 X dX7_dearest_114 ?_
                exact g_iret X hr (by first | exact hRL23 _ _ | exact hR12 _ _ | exact hR3 _ _ | exact hR0 _ _ | assumption | (unfold InR; omega)) (by first | exact ⟨by rw [if_neg (by omega)], QM.rf⟩ | exact ⟨by rw [if_pos (by omega), if_pos (by omega), hf], hF1.qm⟩ | exact ⟨by rw [if_pos (by omega), if_neg (by omega), if_pos (by omega), ← hf]; exact hpc1 f (by omega) (by omega), hF1.qm⟩ | exact ⟨by rw [if_pos (by omega), if_neg (by omega), if_neg (by omega), hm2], hF1.qm⟩) dX7_dearest_115
              · skip
                refine g_aload0 X dX7_dearest_105 ?_
                refine gf_7_plan X i7 (by decide +kernel) dX7_dearest_106 ?_
                refine g_iload2 X dX7_dearest_109 ?_
                refine g_iald X (ia_84 (by omega)) dX7_dearest_110 ?_
                refine g_goto (tgt := 115) X dX7_dearest_111 (by decide) ?_
                exact g_iret X hr (by first | exact hRL23 _ _ | exact hR12 _ _ | exact hR3 _ _ | exact hR0 _ _ | assumption | (unfold InR; omega)) (by first | exact ⟨by rw [if_neg (by omega)], QM.rf⟩ | exact ⟨by rw [if_pos (by omega), if_pos (by omega), hf], hF1.qm⟩ | exact ⟨by rw [if_pos (by omega), if_neg (by omega), if_pos (by omega), ← hf]; exact hpc1 f (by omega) (by omega), hF1.qm⟩ | exact ⟨by rw [if_pos (by omega), if_neg (by omega), if_neg (by omega), hm2], hF1.qm⟩) dX7_dearest_115
            · skip
              refine g_iload2 X dX7_dearest_96 ?_
              refine g_goto (tgt := 115) X dX7_dearest_97 (by decide) ?_
              exact g_iret X hr (by first | exact hRL23 _ _ | exact hR12 _ _ | exact hR3 _ _ | exact hR0 _ _ | assumption | (unfold InR; omega)) (by first | exact ⟨by rw [if_neg (by omega)], QM.rf⟩ | exact ⟨by rw [if_pos (by omega), if_pos (by omega), hf], hF1.qm⟩ | exact ⟨by rw [if_pos (by omega), if_neg (by omega), if_pos (by omega), ← hf]; exact hpc1 f (by omega) (by omega), hF1.qm⟩ | exact ⟨by rw [if_pos (by omega), if_neg (by omega), if_neg (by omega), hm2], hF1.qm⟩) dX7_dearest_115
        · skip
          refine g_aload0 X dX7_dearest_34 ?_
          refine gf_7_plan X i7 (by decide +kernel) dX7_dearest_35 ?_
          refine g_iload4 X dX7_dearest_38 ?_
          refine g_iald X (ia_84 (by omega)) dX7_dearest_40 ?_
          have hpw := hpc1 w hw.1 (by omega)
          have hpr := plM_r (σ := σ) hn.1 w
          have hn4 := n4_01 (plM σ w)
          have hrb := rdM_b hM w
          have hrd : rdM σ w = if plM σ w = -1 then -1 else woV σ w (plM σ w) - totM σ := rfl
          have J54 : ∀ (r : Int) (σ2 : St), F84 σ σ2 → (∀ j, 0 ≤ j → j < σ 80 0 → σ2 84 j = n4 (plM σ j)) → r = rdM σ w → WG E ad 6 σ2 54 [some (.ref (ad 79)), some (.int (iI x1)), some (.int (iI f)), some (.int (iI m)), some (.int (iI w)), u] [.int (iI r)] := by
            intro r σ2 hF2 hpc2 hrr
            refine g_istore5 X dX7_dearest_54 (by decide) (by first | exact Or.inl rfl | exact Or.inr ⟨_, rfl, rfl⟩) ?_
            refine g_iload5 X dX7_dearest_56 ?_
            refine g_iload3 X dX7_dearest_58 ?_
            refine g_icmp_le (tgt := 67) X (by first | exact hRL23 _ _ | exact hR12 _ _ | exact hR3 _ _ | exact hR0 _ _ | assumption | (unfold InR; omega)) (by first | exact hRL23 _ _ | exact hR12 _ _ | exact hR3 _ _ | exact hR0 _ _ | assumption | (unfold InR; omega)) dX7_dearest_59 (by decide) (fun h59 => ?_) (fun h59 => ?_)
            · skip
              refine g_iload2 X dX7_dearest_67 ?_
              refine g_istore2 X dX7_dearest_68 (by decide) (by first | exact Or.inl rfl | exact Or.inr ⟨_, rfl, rfl⟩) ?_
              refine g_iload5 X dX7_dearest_69 ?_
              refine g_iload3 X dX7_dearest_71 ?_
              refine g_icmp_le (tgt := 80) X (by first | exact hRL23 _ _ | exact hR12 _ _ | exact hR3 _ _ | exact hR0 _ _ | assumption | (unfold InR; omega)) (by first | exact hRL23 _ _ | exact hR12 _ _ | exact hR3 _ _ | exact hR0 _ _ | assumption | (unfold InR; omega)) dX7_dearest_72 (by decide) (fun h72 => ?_) (fun h72 => ?_)
              · skip
                refine g_iload3 X dX7_dearest_80 ?_
                refine g_istore3 X dX7_dearest_81 (by decide) (by first | exact Or.inl rfl | exact Or.inr ⟨_, rfl, rfl⟩) ?_
                refine g_iinc4 X dX7_dearest_82 (by decide) (by first | exact Or.inl rfl | exact Or.inr ⟨_, rfl, rfl⟩) ?_
                refine g_goto (tgt := 23) X dX7_dearest_85 (by decide) ?_
                refine ih23 _ _ _ _ _ (by omega) ?_ ?_ ?_ ?_ ?_ ?_ ?_
                · omega
                · omega
                · omega
                · rw [deM_s hw.1, ← hf, ← hm2, ← hrr]
                  first | (rw [if_pos (by omega)]; done) | (rw [if_neg (by omega)]; done)
                · rw [moM_s hw.1, ← hm2, ← hrr]
                  first | (rw [if_pos (by omega)]; done) | (rw [if_neg (by omega)]; done)
                · exact hF2
                · exact hpc2
              · skip
                refine g_iload5 X dX7_dearest_75 ?_
                refine g_goto (tgt := 81) X dX7_dearest_77 (by decide) ?_
                refine g_istore3 X dX7_dearest_81 (by decide) (by first | exact Or.inl rfl | exact Or.inr ⟨_, rfl, rfl⟩) ?_
                refine g_iinc4 X dX7_dearest_82 (by decide) (by first | exact Or.inl rfl | exact Or.inr ⟨_, rfl, rfl⟩) ?_
                refine g_goto (tgt := 23) X dX7_dearest_85 (by decide) ?_
                refine ih23 _ _ _ _ _ (by omega) ?_ ?_ ?_ ?_ ?_ ?_ ?_
                · omega
                · omega
                · omega
                · rw [deM_s hw.1, ← hf, ← hm2, ← hrr]
                  first | (rw [if_pos (by omega)]; done) | (rw [if_neg (by omega)]; done)
                · rw [moM_s hw.1, ← hm2, ← hrr]
                  first | (rw [if_pos (by omega)]; done) | (rw [if_neg (by omega)]; done)
                · exact hF2
                · exact hpc2
            · skip
              refine g_iload4 X dX7_dearest_62 ?_
              refine g_goto (tgt := 68) X dX7_dearest_64 (by decide) ?_
              refine g_istore2 X dX7_dearest_68 (by decide) (by first | exact Or.inl rfl | exact Or.inr ⟨_, rfl, rfl⟩) ?_
              refine g_iload5 X dX7_dearest_69 ?_
              refine g_iload3 X dX7_dearest_71 ?_
              refine g_icmp_le (tgt := 80) X (by first | exact hRL23 _ _ | exact hR12 _ _ | exact hR3 _ _ | exact hR0 _ _ | assumption | (unfold InR; omega)) (by first | exact hRL23 _ _ | exact hR12 _ _ | exact hR3 _ _ | exact hR0 _ _ | assumption | (unfold InR; omega)) dX7_dearest_72 (by decide) (fun h72 => ?_) (fun h72 => ?_)
              · skip
                refine g_iload3 X dX7_dearest_80 ?_
                refine g_istore3 X dX7_dearest_81 (by decide) (by first | exact Or.inl rfl | exact Or.inr ⟨_, rfl, rfl⟩) ?_
                refine g_iinc4 X dX7_dearest_82 (by decide) (by first | exact Or.inl rfl | exact Or.inr ⟨_, rfl, rfl⟩) ?_
                refine g_goto (tgt := 23) X dX7_dearest_85 (by decide) ?_
                refine ih23 _ _ _ _ _ (by omega) ?_ ?_ ?_ ?_ ?_ ?_ ?_
                · omega
                · omega
                · omega
                · rw [deM_s hw.1, ← hf, ← hm2, ← hrr]
                  first | (rw [if_pos (by omega)]; done) | (rw [if_neg (by omega)]; done)
                · rw [moM_s hw.1, ← hm2, ← hrr]
                  first | (rw [if_pos (by omega)]; done) | (rw [if_neg (by omega)]; done)
                · exact hF2
                · exact hpc2
              · skip
                refine g_iload5 X dX7_dearest_75 ?_
                refine g_goto (tgt := 81) X dX7_dearest_77 (by decide) ?_
                refine g_istore3 X dX7_dearest_81 (by decide) (by first | exact Or.inl rfl | exact Or.inr ⟨_, rfl, rfl⟩) ?_
                refine g_iinc4 X dX7_dearest_82 (by decide) (by first | exact Or.inl rfl | exact Or.inr ⟨_, rfl, rfl⟩) ?_
                refine g_goto (tgt := 23) X dX7_dearest_85 (by decide) ?_
                refine ih23 _ _ _ _ _ (by omega) ?_ ?_ ?_ ?_ ?_ ?_ ?_
                · omega
                · omega
                · omega
                · rw [deM_s hw.1, ← hf, ← hm2, ← hrr]
                  first | (rw [if_pos (by omega)]; done) | (rw [if_neg (by omega)]; done)
                · rw [moM_s hw.1, ← hm2, ← hrr]
                  first | (rw [if_pos (by omega)]; done) | (rw [if_neg (by omega)]; done)
                · exact hF2
                · exact hpc2
          refine g_if_ge (tgt := 48) X (by first | exact hRL23 _ _ | exact hR12 _ _ | exact hR3 _ _ | exact hR0 _ _ | assumption | (unfold InR; omega)) dX7_dearest_41 (by decide) (fun h41 => ?_) (fun h41 => ?_)
          · skip
            refine g_aload0 X dX7_dearest_48 ?_
            refine g_iload4 X dX7_dearest_49 ?_
            refine g_I1 X (k_X7_roomOf E (hF1.mt hM) (hF1.n4 hN) (by omega)) gX7_dearest_X7_roomOf rfl (by decide +kernel) (by decide) ob_79 (Nat.le_of_ble_eq_true rfl) dX7_dearest_51 (fun z51 σ51 hz51 hp51 => ?_)
            refine g_rg (fun hR51 => ?_)
            first | exact J54 _ _ hF1 hpc1 (by rw [hrd, if_pos (by omega)]) | exact J54 _ _ (hF1.tr hp51.2.f84) (fun j a b => by rw [hp51.2.wo2]; exact hpc1 j a b) (by rw [hrd, if_neg (by omega), hp51.1, hF1.wo, hF1.tot, hpw, show n4 (plM σ w) = plM σ w by omega])
          · skip
            refine g_iconst X dX7_dearest_44 ?_
            refine g_goto (tgt := 54) X dX7_dearest_45 (by decide) ?_
            first | exact J54 _ _ hF1 hpc1 (by rw [hrd, if_pos (by omega)]) | exact J54 _ _ (hF1.tr hp51.2.f84) (fun j a b => by rw [hp51.2.wo2]; exact hpc1 j a b) (by rw [hrd, if_neg (by omega), hp51.1, hF1.wo, hF1.tot, hpw, show n4 (plM σ w) = plM σ w by omega])
    refine L23 _ _ _ _ _ _ (Nat.lt_succ_self _) ?_ ?_ ?_ ?_ ?_ ?_ ?_
    · omega
    · omega
    · omega
    · rfl
    · rfl
    · exact hF
    · exact hpc
  · skip
    refine g_iconst X dX7_dearest_9 ?_
    exact g_iret X hr (by first | exact hR3 _ _ | exact hR0 _ _ | assumption | (unfold InR; omega)) (by first | exact ⟨by rw [if_neg (by omega)], QM.rf⟩ | exact ⟨by rw [if_pos (by omega), if_pos (by omega), hf], hF1.qm⟩ | exact ⟨by rw [if_pos (by omega), if_neg (by omega), if_pos (by omega), ← hf]; exact hpc1 f (by omega) (by omega), hF1.qm⟩ | exact ⟨by rw [if_pos (by omega), if_neg (by omega), if_neg (by omega), hm2], hF1.qm⟩) dX7_dearest_10

set_option maxHeartbeats 4000000 in
set_option maxRecDepth 100000 in
theorem k_X7_pairs (E0 : EV) {ad : Int → Nat} {σ : St} (hM : MT (σ 80)) : MGE E0 yX7_pairs wsX7_pairs 1 22 ad σ [.ref (ad 79)] (PF (prP σ (σ 80 0)) σ) := by
  refine MGE.of (cc := cX7_pairs) (maxL := 4) (ret := (some .int)) (own := RX7) [some (.ref (ad 79)), none, none, none] (by decide +kernel) rfl rfl (Nat.le_of_ble_eq_true rfl) rfl rfl (fun E X hr => ?_)
  have i7 : ∀ w ∈ wsX70, w ∈ wsX7_pairs := by decide +kernel
  refine g_rg (fun hR0 => ?_)
  have hm := hM.1
  have hn := hM.2.1
  refine g_iconst X dX7_pairs_0 ?_
  refine g_istore1 X dX7_pairs_1 (by decide) (by first | exact Or.inl rfl | exact Or.inr ⟨_, rfl, rfl⟩) ?_
  refine g_iconst X dX7_pairs_2 ?_
  refine g_istore2 X dX7_pairs_3 (by decide) (by first | exact Or.inl rfl | exact Or.inr ⟨_, rfl, rfl⟩) ?_
  have L4 : ∀ (n4 : Nat) (w a : Int) (u : Option Value), (7 - w).toNat < n4 → (0 ≤ w ∧ w ≤ σ 80 0) → (0 ≤ a ∧ a ≤ 7 * w) → (a = prP σ w) → WG E ad 4 σ 4 [some (.ref (ad 79)), some (.int (iI a)), some (.int (iI w)), u] [] := by
    intro n4
    induction n4 with
    | zero => intro w a u hn; exact absurd hn (Nat.not_lt_zero _)
    | succ n4 ih4 =>
      intro w a u hn4 hw hab ha
      refine g_rg (fun hRL4 => ?_)
      refine g_iload2 X dX7_pairs_4 ?_
      refine g_aload0 X dX7_pairs_5 ?_
      refine gf_7_s X i7 (by decide +kernel) dX7_pairs_6 ?_
      refine g_iconst X dX7_pairs_9 ?_
      refine g_iald X (ia_80 (by omega)) dX7_pairs_10 ?_
      refine g_icmp_ge (tgt := 55) X (by first | exact hRL4 _ _ | exact hR0 _ _ | assumption | (unfold InR; omega)) (by first | exact hRL4 _ _ | exact hR0 _ _ | assumption | (unfold InR; omega)) dX7_pairs_11 (by decide) (fun h11 => ?_) (fun h11 => ?_)
      · skip
        refine g_iload1 X dX7_pairs_55 ?_
        exact g_iretF X hr (by first | exact hRL4 _ _ | exact hR0 _ _ | assumption | (unfold InR; omega)) ⟨by rw [ha, show w = σ 80 0 by omega], rfl⟩ dX7_pairs_56
      · skip
        refine g_iconst X dX7_pairs_14 ?_
        refine g_istore3 X dX7_pairs_15 (by decide) (by first | exact Or.inl rfl | exact Or.inr ⟨_, rfl, rfl⟩) ?_
        have L16 : ∀ (n16 : Nat) (t b : Int), (7 - t).toNat < n16 → (0 ≤ t ∧ t ≤ σ 80 1) → (a ≤ b ∧ b ≤ a + t) → (b = prR σ w a t) → WG E ad 4 σ 16 [some (.ref (ad 79)), some (.int (iI b)), some (.int (iI w)), some (.int (iI t))] [] := by
          intro n16
          induction n16 with
          | zero => intro t b hn; exact absurd hn (Nat.not_lt_zero _)
          | succ n16 ih16 =>
            intro t b hn16 ht hbb hb
            refine g_rg (fun hRL16 => ?_)
            refine g_iload3 X dX7_pairs_16 ?_
            refine g_aload0 X dX7_pairs_17 ?_
            refine gf_7_s X i7 (by decide +kernel) dX7_pairs_18 ?_
            refine g_iconst X dX7_pairs_21 ?_
            refine g_iald X (ia_80 (by omega)) dX7_pairs_22 ?_
            refine g_icmp_ge (tgt := 49) X (by first | exact hRL16 _ _ | exact hRL4 _ _ | exact hR0 _ _ | assumption | (unfold InR; omega)) (by first | exact hRL16 _ _ | exact hRL4 _ _ | exact hR0 _ _ | assumption | (unfold InR; omega)) dX7_pairs_23 (by decide) (fun h23 => ?_) (fun h23 => ?_)
            · skip
              refine g_iinc2 X dX7_pairs_49 (by decide) (by first | exact Or.inl rfl | exact Or.inr ⟨_, rfl, rfl⟩) ?_
              refine g_goto (tgt := 4) X dX7_pairs_52 (by decide) ?_
              refine ih4 _ _ _ (by omega) ?_ ?_ ?_
              · omega
              · omega
              · rw [prP_s hw.1, ← ha, hb, show t = σ 80 1 by omega]
            · skip
              refine g_iload1 X dX7_pairs_26 ?_
              refine g_aload0 X dX7_pairs_27 ?_
              refine g_iload2 X dX7_pairs_28 ?_
              refine g_iload3 X dX7_pairs_29 ?_
              refine g_F2 X (k_X7_of E (by omega) (by omega)) gX7_pairs_X7_of rfl (by decide +kernel) (by decide) ob_79 (Nat.le_of_ble_eq_true rfl) dX7_pairs_30 (fun hz30 => ?_)
              refine g_rg (fun hR30 => ?_)
              have hcm : cM σ w t = σ 80 (9 + 7 * w + t) := rfl
              refine g_if_lt (tgt := 40) X (by first | exact hR30 _ _ | exact hRL16 _ _ | exact hRL4 _ _ | exact hR0 _ _ | assumption | (unfold InR; omega)) dX7_pairs_33 (by decide) (fun h33 => ?_) (fun h33 => ?_)
              · skip
                refine g_iconst X dX7_pairs_40 ?_
                refine g_iadd X dX7_pairs_41 ?_
                refine g_istore1 X dX7_pairs_42 (by decide) (by first | exact Or.inl rfl | exact Or.inr ⟨_, rfl, rfl⟩) ?_
                refine g_iinc3 X dX7_pairs_43 (by decide) (by first | exact Or.inl rfl | exact Or.inr ⟨_, rfl, rfl⟩) ?_
                refine g_goto (tgt := 16) X dX7_pairs_46 (by decide) ?_
                refine ih16 _ _ (by omega) ?_ ?_ ?_
                · omega
                · omega
                · rw [prR_s ht.1, ← hb]
                  first | (rw [if_pos (by omega)]; omega) | (rw [if_neg (by omega)]; done)
              · skip
                refine g_iconst X dX7_pairs_36 ?_
                refine g_goto (tgt := 41) X dX7_pairs_37 (by decide) ?_
                refine g_iadd X dX7_pairs_41 ?_
                refine g_istore1 X dX7_pairs_42 (by decide) (by first | exact Or.inl rfl | exact Or.inr ⟨_, rfl, rfl⟩) ?_
                refine g_iinc3 X dX7_pairs_43 (by decide) (by first | exact Or.inl rfl | exact Or.inr ⟨_, rfl, rfl⟩) ?_
                refine g_goto (tgt := 16) X dX7_pairs_46 (by decide) ?_
                refine ih16 _ _ (by omega) ?_ ?_ ?_
                · omega
                · omega
                · rw [prR_s ht.1, ← hb]
                  first | (rw [if_pos (by omega)]; omega) | (rw [if_neg (by omega)]; done)
        refine L16 _ _ _ (Nat.lt_succ_self _) ?_ ?_ ?_
        · omega
        · omega
        · rfl
  refine L4 _ _ _ _ (Nat.lt_succ_self _) ?_ ?_ ?_
  · omega
  · omega
  · rfl

set_option maxHeartbeats 4000000 in
set_option maxRecDepth 100000 in
theorem k_X7_paired (E0 : EV) {ad : Int → Nat} {σ : St} (hM : MT (σ 80)) (hN : N4 σ) : MGE E0 yX7_paired wsX7_paired 5 119 ad σ [.ref (ad 79)] (PI (fun z σ' => z = pdM σ (σ 80 0) ∧ QM σ σ')) := by
  refine MGE.of (cc := cX7_paired) (maxL := 3) (ret := (some .int)) (own := RX7) [some (.ref (ad 79)), none, none] (by decide +kernel) rfl rfl (Nat.le_of_ble_eq_true rfl) rfl rfl (fun E X hr => ?_)
  have i7 : ∀ w ∈ wsX70, w ∈ wsX7_paired := by decide +kernel
  refine g_rg (fun hR0 => ?_)
  have hm := hM.1
  have hn := hM.2.1
  refine g_aload0 X dX7_paired_0 ?_
  refine g_V0 X (k_X7_plans E hM hN) gX7_paired_X7_plans rfl (by decide +kernel) (by decide) ob_79 (Nat.le_of_ble_eq_true rfl) dX7_paired_1 (fun σ1 hp1 => ?_)
  refine g_rg (fun hR1 => ?_)
  have hF := hp1.1
  have hpc := hp1.2
  have f80 : ∀ k, σ1 80 k = σ 80 k := fun k => hF _ _ (by omega) (by omega)
  have f0 := f80 0
  have f1 := f80 1
  have hMf := hF.mt hM
  have hNf := hF.n4 hN
  refine g_iconst X dX7_paired_4 ?_
  refine g_istore1 X dX7_paired_5 (by decide) (by first | exact Or.inl rfl | exact Or.inr ⟨_, rfl, rfl⟩) ?_
  refine g_iconst X dX7_paired_6 ?_
  refine g_istore2 X dX7_paired_7 (by decide) (by first | exact Or.inl rfl | exact Or.inr ⟨_, rfl, rfl⟩) ?_
  have L8 : ∀ (n8 : Nat) (w a : Int), (7 - w).toNat < n8 → (0 ≤ w ∧ w ≤ σ 80 0) → (0 ≤ a ∧ a ≤ w) → (a = pdM σ w) → WG E ad 3 σ1 8 [some (.ref (ad 79)), some (.int (iI a)), some (.int (iI w))] [] := by
    intro n8
    induction n8 with
    | zero => intro w a hn; exact absurd hn (Nat.not_lt_zero _)
    | succ n8 ih8 =>
      intro w a hn8 hw hab ha
      refine g_rg (fun hRL8 => ?_)
      refine g_iload2 X dX7_paired_8 ?_
      refine g_aload0 X dX7_paired_9 ?_
      refine gf_7_s X i7 (by decide +kernel) dX7_paired_10 ?_
      refine g_iconst X dX7_paired_13 ?_
      refine g_iald X (ia_80 (by omega)) dX7_paired_14 ?_
      refine g_icmp_ge (tgt := 41) X (by first | exact hRL8 _ _ | exact hR1 _ _ | exact hR0 _ _ | assumption | (unfold InR; omega)) (by first | exact hRL8 _ _ | exact hR1 _ _ | exact hR0 _ _ | assumption | (unfold InR; omega)) dX7_paired_15 (by decide) (fun h15 => ?_) (fun h15 => ?_)
      · skip
        refine g_iload1 X dX7_paired_41 ?_
        exact g_iret X hr (by first | exact hRL8 _ _ | exact hR1 _ _ | exact hR0 _ _ | assumption | (unfold InR; omega)) ⟨by rw [ha, show w = σ 80 0 by omega], hF.qm⟩ dX7_paired_42
      · skip
        refine g_iload1 X dX7_paired_18 ?_
        refine g_aload0 X dX7_paired_19 ?_
        refine gf_7_plan X i7 (by decide +kernel) dX7_paired_20 ?_
        refine g_iload2 X dX7_paired_23 ?_
        refine g_iald X (ia_84 (by omega)) dX7_paired_24 ?_
        have hpw := hpc w hw.1 (by omega)
        have hpr := plM_r (σ := σ) hn.1 w
        have hn4 := n4_01 (plM σ w)
        refine g_if_lt (tgt := 32) X (by first | exact hRL8 _ _ | exact hR1 _ _ | exact hR0 _ _ | assumption | (unfold InR; omega)) dX7_paired_25 (by decide) (fun h25 => ?_) (fun h25 => ?_)
        · skip
          refine g_iconst X dX7_paired_32 ?_
          refine g_iadd X dX7_paired_33 ?_
          refine g_istore1 X dX7_paired_34 (by decide) (by first | exact Or.inl rfl | exact Or.inr ⟨_, rfl, rfl⟩) ?_
          refine g_iinc2 X dX7_paired_35 (by decide) (by first | exact Or.inl rfl | exact Or.inr ⟨_, rfl, rfl⟩) ?_
          refine g_goto (tgt := 8) X dX7_paired_38 (by decide) ?_
          refine ih8 _ _ (by omega) ?_ ?_ ?_
          · omega
          · omega
          · rw [pdM_s hw.1, ← ha]
            first | (rw [if_pos (by omega)]; omega) | (rw [if_neg (by omega)]; done)
        · skip
          refine g_iconst X dX7_paired_28 ?_
          refine g_goto (tgt := 33) X dX7_paired_29 (by decide) ?_
          refine g_iadd X dX7_paired_33 ?_
          refine g_istore1 X dX7_paired_34 (by decide) (by first | exact Or.inl rfl | exact Or.inr ⟨_, rfl, rfl⟩) ?_
          refine g_iinc2 X dX7_paired_35 (by decide) (by first | exact Or.inl rfl | exact Or.inr ⟨_, rfl, rfl⟩) ?_
          refine g_goto (tgt := 8) X dX7_paired_38 (by decide) ?_
          refine ih8 _ _ (by omega) ?_ ?_ ?_
          · omega
          · omega
          · rw [pdM_s hw.1, ← ha]
            first | (rw [if_pos (by omega)]; omega) | (rw [if_neg (by omega)]; done)
  refine L8 _ _ _ (Nat.lt_succ_self _) ?_ ?_ ?_
  · omega
  · omega
  · rfl

theorem tiS_b {σ : St} (hn : 0 ≤ σ 80 1 ∧ σ 80 1 ≤ 7) (w : Int) : 0 ≤ tiR σ w ∧ tiR σ w < 128 := by
  have hpn := p2_n hn
  have key : ∀ i : Nat, (i : Int) ≤ σ 80 1 → 0 ≤ tiS σ w i ∧ tiS σ w i < p2 (σ 80 1) := by
    intro i
    induction i with
    | zero => intro _; show 0 ≤ (0 : Int) ∧ (0 : Int) < p2 (σ 80 1); omega
    | succ i ih =>
      intro hi
      have e : ((i + 1 : Nat) : Int) = (i : Int) + 1 := by omega
      have h1 := ih (by omega)
      have h9 := sb_lt (m := tiS σ w i) (k := i) (n := σ 80 1) h1 (by omega) (by omega)
      rw [e, tiS_s (by omega)]
      by_cases h : 0 ≤ cM σ w i ∧ cM σ w i + σ 85 i = wtR σ w
      · rw [if_pos h]; exact h9
      · rw [if_neg h]; exact h1
  have h := key (σ 80 1).toNat (by omega)
  rw [Int.toNat_of_nonneg hn.1] at h
  unfold tiR
  omega
set_option maxHeartbeats 4000000 in
set_option maxRecDepth 100000 in
theorem k_X7_tightAll (E0 : EV) {ad : Int → Nat} {σ : St} (hM : MT (σ 80)) (hN : N4 σ) : MGE E0 yX7_tightAll wsX7_tightAll 6 136 ad σ [.ref (ad 79)] (PI (fun z σ' => z = taS σ (σ 80 0) ∧ QM σ σ')) := by
  refine MGE.of (cc := cX7_tightAll) (maxL := 5) (ret := (some .int)) (own := RX7) [some (.ref (ad 79)), none, none, none, none] (by decide +kernel) rfl rfl (Nat.le_of_ble_eq_true rfl) rfl rfl (fun E X hr => ?_)
  have i7 : ∀ w ∈ wsX70, w ∈ wsX7_tightAll := by decide +kernel
  refine g_rg (fun hR0 => ?_)
  have hm := hM.1
  have hn := hM.2.1
  refine g_aload0 X dX7_tightAll_0 ?_
  refine g_I0 X (k_X7_pricesAll E hM hN) gX7_tightAll_X7_pricesAll rfl (by decide +kernel) (by decide) ob_79 (Nat.le_of_ble_eq_true rfl) dX7_tightAll_1 (fun z1 σ1 hz1 hp1 => ?_)
  refine g_rg (fun hR1 => ?_)
  have hPN := hp1.2
  have hF := hPN.1
  have hM5 := hF.mt hM
  have hP5 := hPN.p5 hM
  have f80 : ∀ k, σ1 80 k = σ 80 k := fun k => hF _ _ (by omega) (by omega)
  have f0 := f80 0
  have f1 := f80 1
  have hz1 := hp1.1
  have J13 : ∀ v : Int, v = (if sPM σ < 0 then -4 else 0) → WG E ad 5 σ1 13 [some (.ref (ad 79)), none, none, none, none] [.int (iI v)] := by
    intro v hv
    have hvb : -4 ≤ v ∧ v ≤ 0 := by
      rw [hv]; by_cases h : sPM σ < 0
      · rw [if_pos h]; omega
      · rw [if_neg h]; omega
    refine g_istore1 X dX7_tightAll_13 (by decide) (by first | exact Or.inl rfl | exact Or.inr ⟨_, rfl, rfl⟩) ?_
    refine g_iconst X dX7_tightAll_14 ?_
    refine g_istore2 X dX7_tightAll_15 (by decide) (by first | exact Or.inl rfl | exact Or.inr ⟨_, rfl, rfl⟩) ?_
    have L16 : ∀ (n16 : Nat) (w a : Int) (u3 u4 : Option Value), (7 - w).toNat < n16 → (0 ≤ w ∧ w ≤ σ 80 0) → (-4 ≤ a ∧ a ≤ 7 * w) → (a = taS σ w) → WG E ad 5 σ1 16 [some (.ref (ad 79)), some (.int (iI a)), some (.int (iI w)), u3, u4] [] := by
      intro n16
      induction n16 with
      | zero => intro w a u3 u4 hn; exact absurd hn (Nat.not_lt_zero _)
      | succ n16 ih16 =>
        intro w a u3 u4 hn16 hw hab ha
        refine g_rg (fun hRL16 => ?_)
        refine g_iload2 X dX7_tightAll_16 ?_
        refine g_aload0 X dX7_tightAll_17 ?_
        refine gf_7_s X i7 (by decide +kernel) dX7_tightAll_18 ?_
        refine g_iconst X dX7_tightAll_21 ?_
        refine g_iald X (ia_80 (by omega)) dX7_tightAll_22 ?_
        refine g_icmp_ge (tgt := 63) X (by first | exact hRL16 _ _ | exact hR1 _ _ | exact hR0 _ _ | assumption | (unfold InR; omega)) (by first | exact hRL16 _ _ | exact hR1 _ _ | exact hR0 _ _ | assumption | (unfold InR; omega)) dX7_tightAll_23 (by decide) (fun h23 => ?_) (fun h23 => ?_)
        · skip
          refine g_iload1 X dX7_tightAll_63 ?_
          exact g_iret X hr (by first | exact hRL16 _ _ | exact hR1 _ _ | exact hR0 _ _ | assumption | (unfold InR; omega)) ⟨by rw [ha, show w = σ 80 0 by omega], hF.qm⟩ dX7_tightAll_64
        · skip
          refine g_aload0 X dX7_tightAll_26 ?_
          refine g_iload2 X dX7_tightAll_27 ?_
          refine g_F1 X (k_X7_tight E hM5 hP5 (by omega)) gX7_tightAll_X7_tight rfl (by decide +kernel) (by decide) ob_79 (Nat.le_of_ble_eq_true rfl) dX7_tightAll_28 (fun hz28 => ?_)
          refine g_rg (fun hR28 => ?_)
          have hti := hPN.ti hM w
          have hnb : 0 ≤ σ1 80 1 ∧ σ1 80 1 ≤ 7 := by omega
          have htb := tiS_b hnb w
          have hbs0 : bcS (tiR σ1 w) 0 = 0 := rfl
          refine g_istore3 X dX7_tightAll_31 (by decide) (by first | exact Or.inl rfl | exact Or.inr ⟨_, rfl, rfl⟩) ?_
          refine g_iconst X dX7_tightAll_32 ?_
          refine g_istore4 X dX7_tightAll_33 (by decide) (by first | exact Or.inl rfl | exact Or.inr ⟨_, rfl, rfl⟩) ?_
          have L35 : ∀ (n35 : Nat) (t b : Int), (7 - t).toNat < n35 → (0 ≤ t ∧ t ≤ 7) → (a ≤ b ∧ b ≤ a + t) → (b = a + bcS (tiR σ1 w) t) → WG E ad 5 σ1 35 [some (.ref (ad 79)), some (.int (iI b)), some (.int (iI w)), some (.int (iI (tiR σ1 w))), some (.int (iI t))] [] := by
            intro n35
            induction n35 with
            | zero => intro t b hn; exact absurd hn (Nat.not_lt_zero _)
            | succ n35 ih35 =>
              intro t b hn35 ht hbb hb
              refine g_rg (fun hRL35 => ?_)
              refine g_iload4 X dX7_tightAll_35 ?_
              refine g_bipush X dX7_tightAll_37 (by decide +kernel) ?_
              refine g_icmp_ge (tgt := 57) X (by first | exact hRL35 _ _ | exact hR28 _ _ | exact hRL16 _ _ | exact hR1 _ _ | exact hR0 _ _ | assumption | (unfold InR; omega)) (by first | exact hRL35 _ _ | exact hR28 _ _ | exact hRL16 _ _ | exact hR1 _ _ | exact hR0 _ _ | assumption | (unfold InR; omega)) dX7_tightAll_39 (by decide) (fun h39 => ?_) (fun h39 => ?_)
              · skip
                refine g_iinc2 X dX7_tightAll_57 (by decide) (by first | exact Or.inl rfl | exact Or.inr ⟨_, rfl, rfl⟩) ?_
                refine g_goto (tgt := 16) X dX7_tightAll_60 (by decide) ?_
                refine ih16 _ _ _ _ (by omega) ?_ ?_ ?_
                · omega
                · omega
                · rw [taS_s hw.1, ← ha, hb, show t = 7 by omega, bcS_7, hti]
              · skip
                have hbt := bt_01 (tiR σ1 w) t
                have hsh : tiR σ1 w / p2 t % 2 = bt (tiR σ1 w) t := rfl
                have hpt := p2_k (k := t) (by omega)
                have hdv : 0 ≤ tiR σ1 w / p2 t ∧ tiR σ1 w / p2 t < 256 := ⟨Int.ediv_nonneg htb.1 (by omega), Int.lt_of_le_of_lt (Int.ediv_le_self _ htb.1) (by omega)⟩
                refine g_iload1 X dX7_tightAll_42 ?_
                refine g_iload3 X dX7_tightAll_43 ?_
                refine g_iload4 X dX7_tightAll_44 ?_
                refine g_ishr X (b_shr (by omega) (by omega)) dX7_tightAll_46 ?_
                refine g_iconst X dX7_tightAll_47 ?_
                refine g_iand X (b_and1 (by omega)) dX7_tightAll_48 ?_
                refine g_iadd X dX7_tightAll_49 ?_
                refine g_istore1 X dX7_tightAll_50 (by decide) (by first | exact Or.inl rfl | exact Or.inr ⟨_, rfl, rfl⟩) ?_
                refine g_iinc4 X dX7_tightAll_51 (by decide) (by first | exact Or.inl rfl | exact Or.inr ⟨_, rfl, rfl⟩) ?_
                refine g_goto (tgt := 35) X dX7_tightAll_54 (by decide) ?_
                refine ih35 _ _ (by omega) ?_ ?_ ?_
                · omega
                · omega
                · rw [bcS_s ht.1, hb, hsh]; omega
          refine L35 _ _ _ (Nat.lt_succ_self _) ?_ ?_ ?_
          · omega
          · omega
          · rw [hbs0]; omega
    refine L16 _ _ _ _ _ (Nat.lt_succ_self _) ?_ ?_ ?_
    · omega
    · omega
    · rw [hv]; rfl
  refine g_if_ge (tgt := 12) X (by first | exact hR1 _ _ | exact hR0 _ _ | assumption | (unfold InR; omega)) dX7_tightAll_4 (by decide) (fun h4 => ?_) (fun h4 => ?_)
  · skip
    refine g_iconst X dX7_tightAll_12 ?_
    exact J13 _ (by first | (rw [if_pos (by omega)]; done) | (rw [if_neg (by omega)]; done))
  · skip
    refine g_bipush X dX7_tightAll_7 (by decide +kernel) ?_
    refine g_goto (tgt := 13) X dX7_tightAll_9 (by decide) ?_
    exact J13 _ (by first | (rw [if_pos (by omega)]; done) | (rw [if_neg (by omega)]; done))

set_option maxHeartbeats 4000000 in
set_option maxRecDepth 100000 in
theorem k_X7_greatestAll (E0 : EV) {ad : Int → Nat} {σ : St} (hM : MT (σ 80)) : MGE E0 yX7_greatestAll wsX7_greatestAll 5 113 ad σ [.ref (ad 79)] (PI (fun z σ' => z = gaS σ (σ 80 1) ∧ F83 σ σ')) := by
  refine MGE.of (cc := cX7_greatestAll) (maxL := 3) (ret := (some .int)) (own := RX7) [some (.ref (ad 79)), none, none] (by decide +kernel) rfl rfl (Nat.le_of_ble_eq_true rfl) rfl rfl (fun E X hr => ?_)
  have i7 : ∀ w ∈ wsX70, w ∈ wsX7_greatestAll := by decide +kernel
  refine g_rg (fun hR0 => ?_)
  have hm := hM.1
  have hn := hM.2.1
  refine g_iconst X dX7_greatestAll_0 ?_
  refine g_istore1 X dX7_greatestAll_1 (by decide) (by first | exact Or.inl rfl | exact Or.inr ⟨_, rfl, rfl⟩) ?_
  refine g_iconst X dX7_greatestAll_2 ?_
  refine g_istore2 X dX7_greatestAll_3 (by decide) (by first | exact Or.inl rfl | exact Or.inr ⟨_, rfl, rfl⟩) ?_
  have L4 : ∀ (n4 : Nat) (t a : Int) (σ1 : St), (7 - t).toNat < n4 → (0 ≤ t ∧ t ≤ σ 80 1) → (-1000000 * t ≤ a ∧ a ≤ 1000000 * t) → (a = gaS σ t) → (F83 σ σ1) → WG E ad 3 σ1 4 [some (.ref (ad 79)), some (.int (iI a)), some (.int (iI t))] [] := by
    intro n4
    induction n4 with
    | zero => intro t a σ1 hn; exact absurd hn (Nat.not_lt_zero _)
    | succ n4 ih4 =>
      intro t a σ1 hn4 ht hab ha hF
      refine g_rg (fun hRL4 => ?_)
      have g1 : σ1 80 1 = σ 80 1 := hF _ _ (by omega)
      refine g_iload2 X dX7_greatestAll_4 ?_
      refine g_aload0 X dX7_greatestAll_5 ?_
      refine gf_7_s X i7 (by decide +kernel) dX7_greatestAll_6 ?_
      refine g_iconst X dX7_greatestAll_9 ?_
      refine g_iald X (ia_80 (by omega)) dX7_greatestAll_10 ?_
      refine g_icmp_ge (tgt := 28) X (by first | exact hRL4 _ _ | exact hR0 _ _ | assumption | (unfold InR; omega)) (by first | exact hRL4 _ _ | exact hR0 _ _ | assumption | (unfold InR; omega)) dX7_greatestAll_11 (by decide) (fun h11 => ?_) (fun h11 => ?_)
      · skip
        refine g_iload1 X dX7_greatestAll_28 ?_
        exact g_iret X hr (by first | exact hRL4 _ _ | exact hR0 _ _ | assumption | (unfold InR; omega)) ⟨by rw [ha, show t = σ 80 1 by omega], hF⟩ dX7_greatestAll_29
      · skip
        refine g_iload1 X dX7_greatestAll_14 ?_
        refine g_aload0 X dX7_greatestAll_15 ?_
        refine g_iload2 X dX7_greatestAll_16 ?_
        refine g_I1 X (k_X7_greatestPrice E (hF.mt hM) (by omega)) gX7_greatestAll_X7_greatestPrice rfl (by decide +kernel) (by decide) ob_79 (Nat.le_of_ble_eq_true rfl) dX7_greatestAll_17 (fun z17 σ17 hz17 hp17 => ?_)
        refine g_rg (fun hR17 => ?_)
        have hz17 := hp17.1
        rw [grV_F hF] at hz17
        have hgb := grV_b hM t
        refine g_iadd X dX7_greatestAll_20 ?_
        refine g_istore1 X dX7_greatestAll_21 (by decide) (by first | exact Or.inl rfl | exact Or.inr ⟨_, rfl, rfl⟩) ?_
        refine g_iinc2 X dX7_greatestAll_22 (by decide) (by first | exact Or.inl rfl | exact Or.inr ⟨_, rfl, rfl⟩) ?_
        refine g_goto (tgt := 4) X dX7_greatestAll_25 (by decide) ?_
        refine ih4 _ _ _ (by omega) ?_ ?_ ?_ ?_
        · omega
        · omega
        · rw [gaS_s ht.1, ← ha, hz17]
        · exact hF.tr hp17.2
  refine L4 _ _ _ _ (Nat.lt_succ_self _) ?_ ?_ ?_ ?_
  · omega
  · omega
  · rfl
  · exact F83.rf

set_option maxHeartbeats 4000000 in
set_option maxRecDepth 100000 in
theorem k_X7_count (E0 : EV) {ad : Int → Nat} {σ : St} {x1 : Int} (hM : MT (σ 80)) (hN : N4 σ) (hx1 : InR x1) : MGE E0 yX7_count wsX7_count 7 160 ad σ [.ref (ad 79), .int (iI x1)] (PI (fun z σ' => z = (if x1 = 0 then σ 80 0 else if x1 = 1 then σ 80 1 else if x1 = 2 then prP σ (σ 80 0) else if x1 = 3 then pdM σ (σ 80 0) else if x1 = 4 then taS σ (σ 80 0) else if x1 = 5 then sPM σ else if x1 = 6 then gaS σ (σ 80 1) else if x1 = 7 then σ 79 2 else if x1 = 8 then σ 79 4 else -1) ∧ QM σ σ')) := by
  refine MGE.of (cc := cX7_count) (maxL := 2) (ret := (some .int)) (own := RX7) [some (.ref (ad 79)), some (.int (iI x1))] (by decide +kernel) rfl rfl (Nat.le_of_ble_eq_true rfl) rfl rfl (fun E X hr => ?_)
  have i7 : ∀ w ∈ wsX70, w ∈ wsX7_count := by decide +kernel
  refine g_rg (fun hR0 => ?_)
  have hm := hM.1
  have hn := hM.2.1
  refine g_iload1 X dX7_count_0 ?_
  by_cases h1 : 0 ≤ x1 ∧ x1 ≤ 8
  · skip
    rcases (show x1 = 0 ∨ x1 = 1 ∨ x1 = 2 ∨ x1 = 3 ∨ x1 = 4 ∨ x1 = 5 ∨ x1 = 6 ∨ x1 = 7 ∨ x1 = 8 by omega) with g1 | g1 | g1 | g1 | g1 | g1 | g1 | g1 | g1
    · skip
      refine g_tin (tgt := 52) X (by first | exact hR0 _ _ | assumption | (unfold InR; omega)) dX7_count_1 (by omega) (by omega) (by rw [g1]; try rfl) (by decide) ?_
      refine g_aload0 X dX7_count_52 ?_
      refine gf_7_s X i7 (by decide +kernel) dX7_count_53 ?_
      refine g_iload1 X dX7_count_56 ?_
      refine g_iald X (ia_80 (by omega)) dX7_count_57 ?_
      exact g_iret X hr (by first | exact hR0 _ _ | assumption | (unfold InR; omega)) (by first | exact ⟨by rw [if_pos (by omega)]; rw [g1], QM.rf⟩ | exact ⟨by rw [if_neg (by omega), if_pos (by omega)]; rw [g1], QM.rf⟩) dX7_count_58
    · skip
      refine g_tin (tgt := 52) X (by first | exact hR0 _ _ | assumption | (unfold InR; omega)) dX7_count_1 (by omega) (by omega) (by rw [g1]; try rfl) (by decide) ?_
      refine g_aload0 X dX7_count_52 ?_
      refine gf_7_s X i7 (by decide +kernel) dX7_count_53 ?_
      refine g_iload1 X dX7_count_56 ?_
      refine g_iald X (ia_80 (by omega)) dX7_count_57 ?_
      exact g_iret X hr (by first | exact hR0 _ _ | assumption | (unfold InR; omega)) (by first | exact ⟨by rw [if_pos (by omega)]; rw [g1], QM.rf⟩ | exact ⟨by rw [if_neg (by omega), if_pos (by omega)]; rw [g1], QM.rf⟩) dX7_count_58
    · skip
      refine g_tin (tgt := 59) X (by first | exact hR0 _ _ | assumption | (unfold InR; omega)) dX7_count_1 (by omega) (by omega) (by rw [g1]; try rfl) (by decide) ?_
      refine g_aload0 X dX7_count_59 ?_
      refine g_F0 X (k_X7_pairs E hM) gX7_count_X7_pairs rfl (by decide +kernel) (by decide) ob_79 (Nat.le_of_ble_eq_true rfl) dX7_count_60 (fun hz60 => ?_)
      refine g_rg (fun hR60 => ?_)
      exact g_iret X hr (by first | exact hR60 _ _ | exact hR0 _ _ | assumption | (unfold InR; omega)) ⟨by rw [if_neg (by omega), if_neg (by omega), if_pos (by omega)], QM.rf⟩ dX7_count_63
    · skip
      refine g_tin (tgt := 64) X (by first | exact hR0 _ _ | assumption | (unfold InR; omega)) dX7_count_1 (by omega) (by omega) (by rw [g1]; try rfl) (by decide) ?_
      refine g_aload0 X dX7_count_64 ?_
      refine g_I0 X (k_X7_paired E hM hN) gX7_count_X7_paired rfl (by decide +kernel) (by decide) ob_79 (Nat.le_of_ble_eq_true rfl) dX7_count_65 (fun z65 σ65 hz65 hp65 => ?_)
      refine g_rg (fun hR65 => ?_)
      exact g_iret X hr (by first | exact hR65 _ _ | exact hR0 _ _ | assumption | (unfold InR; omega)) ⟨by rw [if_neg (by omega), if_neg (by omega), if_neg (by omega), if_pos (by omega)]; exact hp65.1, hp65.2⟩ dX7_count_68
    · skip
      refine g_tin (tgt := 69) X (by first | exact hR0 _ _ | assumption | (unfold InR; omega)) dX7_count_1 (by omega) (by omega) (by rw [g1]; try rfl) (by decide) ?_
      refine g_aload0 X dX7_count_69 ?_
      refine g_I0 X (k_X7_tightAll E hM hN) gX7_count_X7_tightAll rfl (by decide +kernel) (by decide) ob_79 (Nat.le_of_ble_eq_true rfl) dX7_count_70 (fun z70 σ70 hz70 hp70 => ?_)
      refine g_rg (fun hR70 => ?_)
      exact g_iret X hr (by first | exact hR70 _ _ | exact hR0 _ _ | assumption | (unfold InR; omega)) ⟨by rw [if_neg (by omega), if_neg (by omega), if_neg (by omega), if_neg (by omega), if_pos (by omega)]; exact hp70.1, hp70.2⟩ dX7_count_73
    · skip
      refine g_tin (tgt := 74) X (by first | exact hR0 _ _ | assumption | (unfold InR; omega)) dX7_count_1 (by omega) (by omega) (by rw [g1]; try rfl) (by decide) ?_
      refine g_aload0 X dX7_count_74 ?_
      refine g_I0 X (k_X7_pricesAll E hM hN) gX7_count_X7_pricesAll rfl (by decide +kernel) (by decide) ob_79 (Nat.le_of_ble_eq_true rfl) dX7_count_75 (fun z75 σ75 hz75 hp75 => ?_)
      refine g_rg (fun hR75 => ?_)
      exact g_iret X hr (by first | exact hR75 _ _ | exact hR0 _ _ | assumption | (unfold InR; omega)) ⟨by rw [if_neg (by omega), if_neg (by omega), if_neg (by omega), if_neg (by omega), if_neg (by omega), if_pos (by omega)]; exact hp75.1, hp75.2.1.qm⟩ dX7_count_78
    · skip
      refine g_tin (tgt := 79) X (by first | exact hR0 _ _ | assumption | (unfold InR; omega)) dX7_count_1 (by omega) (by omega) (by rw [g1]; try rfl) (by decide) ?_
      refine g_aload0 X dX7_count_79 ?_
      refine g_I0 X (k_X7_greatestAll E hM) gX7_count_X7_greatestAll rfl (by decide +kernel) (by decide) ob_79 (Nat.le_of_ble_eq_true rfl) dX7_count_80 (fun z80 σ80 hz80 hp80 => ?_)
      refine g_rg (fun hR80 => ?_)
      exact g_iret X hr (by first | exact hR80 _ _ | exact hR0 _ _ | assumption | (unfold InR; omega)) ⟨by rw [if_neg (by omega), if_neg (by omega), if_neg (by omega), if_neg (by omega), if_neg (by omega), if_neg (by omega), if_pos (by omega)]; exact hp80.1, hp80.2.qm⟩ dX7_count_83
    · skip
      refine g_tin (tgt := 84) X (by first | exact hR0 _ _ | assumption | (unfold InR; omega)) dX7_count_1 (by omega) (by omega) (by rw [g1]; try rfl) (by decide) ?_
      refine g_aload0 X dX7_count_84 ?_
      refine gf_7_pasts X i7 (by decide +kernel) dX7_count_85 ?_
      exact g_iret X hr (by first | exact hR0 _ _ | assumption | (unfold InR; omega)) ⟨by rw [if_neg (by omega), if_neg (by omega), if_neg (by omega), if_neg (by omega), if_neg (by omega), if_neg (by omega), if_neg (by omega), if_pos (by omega)], QM.rf⟩ dX7_count_88
    · skip
      refine g_tin (tgt := 89) X (by first | exact hR0 _ _ | assumption | (unfold InR; omega)) dX7_count_1 (by omega) (by omega) (by rw [g1]; try rfl) (by decide) ?_
      refine g_aload0 X dX7_count_89 ?_
      refine gf_7_typed X i7 (by decide +kernel) dX7_count_90 ?_
      exact g_iret X hr (by first | exact hR0 _ _ | assumption | (unfold InR; omega)) ⟨by rw [if_neg (by omega), if_neg (by omega), if_neg (by omega), if_neg (by omega), if_neg (by omega), if_neg (by omega), if_neg (by omega), if_neg (by omega), if_pos (by omega)], QM.rf⟩ dX7_count_93
  · skip
    refine g_tout (tgt := 94) X (by first | exact hR0 _ _ | assumption | (unfold InR; omega)) dX7_count_1 (by omega) (by decide) ?_
    refine g_iconst X dX7_count_94 ?_
    exact g_iret X hr (by first | exact hR0 _ _ | assumption | (unfold InR; omega)) ⟨by rw [if_neg (by omega), if_neg (by omega), if_neg (by omega), if_neg (by omega), if_neg (by omega), if_neg (by omega), if_neg (by omega), if_neg (by omega), if_neg (by omega)], QM.rf⟩ dX7_count_95
