/-! THE LAW'S OWN METHODS: isProved -/
theorem b_or0 {m : Int} (hm : 0 ≤ m ∧ m < 256) : iI m ||| iI 0 = iI m := by
  obtain ⟨a, rfl⟩ := Int.eq_ofNat_of_zero_le hm.1
  have key : ∀ a : Nat, a < 256 → iI (a : Int) ||| iI 0 = iI (a : Int) := by decide +kernel
  exact key a (by omega)
set_option maxHeartbeats 4000000 in
set_option maxRecDepth 100000 in
theorem k_L_isProved (E0 : EV) {ad : Int → Nat} {σ : St} (hL : LW σ) (had : ad (-1) = 0) : MGN E0 yL_isProved wsL_isProved 7 160 1 7 ad σ [.ref (ad 0), .ref (ad 79), .ref (ad 80), .ref (ad 81)] (PI (fun z σ' => z = 1 ∧ PS σ σ')) := by
  refine MGN.of (cc := cL_isProved) (maxL := 17) (ret := (some .boolean)) (own := RL) [some (.ref (ad 0)), some (.ref (ad 79)), some (.ref (ad 80)), some (.ref (ad 81)), none, none, none, none, none, none, none, none, none, none, none, none, none] (by decide +kernel) rfl rfl (Nat.le_of_ble_eq_true rfl) rfl rfl (fun E X hr => ?_)
  refine g_rg (fun hR0 => ?_)
  obtain ⟨hC, h80, h5, h790, h791, h81, hc80⟩ := id hL
  have hT0 := hC.1 0 (by omega) (by omega)
  obtain ⟨hm, hn, hti, htc⟩ := id hT0
  have hAp0 := X.ap
  refine g_aload0 X dL_isProved_0 ?_
  refine g_I0 X (k_X6_total E hC) gL_isProved_X6_total rfl (by decide +kernel) (by decide) ob_0 (Nat.le_of_ble_eq_true rfl) dL_isProved_1 (fun z1 σ1 hz1 hp1 => ?_)
  refine g_rg (fun hR1 => ?_)
  have P1 : PS σ σ1 := (PS.rf hL).q hp1.2
  have htot : z1 = RW σ (AW σ) 0 0 := hp1.1
  have htb := RW_b hT0 (AW σ) 0 0 (by omega)
  refine g_istore4 X dL_isProved_4 (by decide) (by first | exact Or.inl rfl | exact Or.inr ⟨_, rfl, rfl⟩) ?_
  refine g_iconst X dL_isProved_6 ?_
  refine g_istore5 X dL_isProved_7 (by decide) (by first | exact Or.inl rfl | exact Or.inr ⟨_, rfl, rfl⟩) ?_
  refine g_iconst X dL_isProved_9 ?_
  refine g_istore6 X dL_isProved_10 (by decide) (by first | exact Or.inl rfl | exact Or.inr ⟨_, rfl, rfl⟩) ?_
  refine g_iconst X dL_isProved_12 ?_
  refine g_istore7 X dL_isProved_13 (by decide) (by first | exact Or.inl rfl | exact Or.inr ⟨_, rfl, rfl⟩) ?_
  refine g_iconst X dL_isProved_15 ?_
  refine g_istore8 X dL_isProved_16 (by decide) (by first | exact Or.inl rfl | exact Or.inr ⟨_, rfl, rfl⟩) ?_
  refine g_iconst X dL_isProved_18 ?_
  refine g_istore9 X dL_isProved_19 (by decide) (by first | exact Or.inl rfl | exact Or.inr ⟨_, rfl, rfl⟩) ?_
  refine g_iconst X dL_isProved_21 ?_
  refine g_istore10 X dL_isProved_22 (by decide) (by first | exact Or.inl rfl | exact Or.inr ⟨_, rfl, rfl⟩) ?_
  refine g_bipush X dL_isProved_24 (by decide +kernel) ?_
  refine g_newP X hr had (by decide +kernel) dL_isProved_26 (fun ad E hr ha hTB _ ha82 X => ?_)
  rw [← ha 0 (by omega) (by omega), ← ha 79 (by omega) (by omega), ← ha 80 (by omega) (by omega), ← ha 81 (by omega) (by omega)]
  refine g_rg (fun hR26 => ?_)
  refine g_astore11 X dL_isProved_28 (by decide) (by first | exact Or.inl rfl | exact Or.inr ⟨_, rfl, rfl⟩) ?_
  refine g_aload0 X dL_isProved_30 ?_
  refine g_I0 X (k_X6_proof E (P1.z).1) gL_isProved_X6_proof rfl (by decide +kernel) (by decide) ob_0 (Nat.le_of_ble_eq_true rfl) dL_isProved_31 (fun z31 σ31 hz31 hp31 => ?_)
  refine g_rg (fun hR31 => ?_)
  have P31 := (P1.z).q hp31.2
  have e31 : z31 = z1 := by rw [hp31.1, a_pf hT0 P1.z, htot]
  refine g_iload4 X dL_isProved_34 ?_
  refine g_icmp_ne (tgt := 43) X (by first | exact hR31 _ _ | exact hR26 _ _ | exact hR1 _ _ | exact hR0 _ _ | assumption | (unfold InR; omega)) (by first | exact hR31 _ _ | exact hR26 _ _ | exact hR1 _ _ | exact hR0 _ _ | assumption | (unfold InR; omega)) dL_isProved_36 (by decide) (fun h36 => ?_) (fun h36 => ?_)
  · skip
    exact absurd e31 h36 -- CLOSED
  · skip
    refine g_iconst X dL_isProved_39 ?_
    refine g_goto (tgt := 44) X dL_isProved_40 (by decide) ?_
    refine g_istore12 X dL_isProved_44 (by decide) (by first | exact Or.inl rfl | exact Or.inr ⟨_, rfl, rfl⟩) ?_
    refine g_iconst X dL_isProved_46 ?_
    refine g_istore13 X dL_isProved_47 (by decide) (by first | exact Or.inl rfl | exact Or.inr ⟨_, rfl, rfl⟩) ?_
    have L49 : ∀ (n49 : Nat) (t p g : Int) (σa : St), (σ (TB 0) 1 - t).toNat < n49 → (0 ≤ t ∧ t ≤ σ (TB 0) 1) → (PS σ σa) → (p = pLp σ t) → (g = sG σ t) → (∀ j, 0 ≤ j → j < t → σa 82 j = lpP σ j) → WG E ad 17 σa 49 [some (.ref (ad 0)), some (.ref (ad 79)), some (.ref (ad 80)), some (.ref (ad 81)), some (.int (iI z1)), some (.int (iI 0)), some (.int (iI 0)), some (.int (iI p)), some (.int (iI g)), some (.int (iI 0)), some (.int (iI 0)), some (.ref (ad 82)), some (.int (iI 1)), some (.int (iI t)), none, none, none] [] := by
      intro n49
      induction n49 with
      | zero => intro t p g σa hn; exact absurd hn (Nat.not_lt_zero _)
      | succ n49 ih49 =>
        intro t p g σa hn49 ht hP hpp hgg hpr
        refine g_rg (fun hRL49 => ?_)
        have e79 := hP.2 79 1 (by omega)
        have e790 := hP.2 79 0 (by omega)
        refine g_iload13 X dL_isProved_49 ?_
        refine g_aload1 X dL_isProved_51 ?_
        refine g_iconst X dL_isProved_52 ?_
        refine g_iald X (ia_79 (by omega)) dL_isProved_53 ?_
        refine g_icmp_ge (tgt := 143) X (by first | exact hRL49 _ _ | exact hR31 _ _ | exact hR26 _ _ | exact hR1 _ _ | exact hR0 _ _ | assumption | (unfold InR; omega)) (by first | exact hRL49 _ _ | exact hR31 _ _ | exact hR26 _ _ | exact hR1 _ _ | exact hR0 _ _ | assumption | (unfold InR; omega)) dL_isProved_54 (by decide) (fun h54 => ?_) (fun h54 => ?_)
        · skip
          have htn : t = σ (TB 0) 1 := by omega
          rw [htn] at hpp hgg hpr
          refine g_iconst X dL_isProved_143 ?_
          refine g_istore13 X dL_isProved_144 (by decide) (by first | exact Or.inl rfl | exact Or.inr ⟨_, rfl, rfl⟩) ?_
          have L146 : ∀ (n146 : Nat) (w co pr pa tk : Int) (σc : St) (u14 u15 u16 : Option Value), (σ (TB 0) 0 - w).toNat < n146 → (0 ≤ w ∧ w ≤ σ (TB 0) 0) → (PS σ σc) → (co = pC σ w) → (pr = pWo σ w) → (pa = pP σ w) → (tk = tkS σ w) → (∀ j, 0 ≤ j → j < σ (TB 0) 1 → σc 82 j = lpP σ j) → WG E ad 17 σc 146 [some (.ref (ad 0)), some (.ref (ad 79)), some (.ref (ad 80)), some (.ref (ad 81)), some (.int (iI z1)), some (.int (iI co)), some (.int (iI pr)), some (.int (iI p)), some (.int (iI g)), some (.int (iI pa)), some (.int (iI tk)), some (.ref (ad 82)), some (.int (iI 1)), some (.int (iI w)), u14, u15, u16] [] := by
            intro n146
            induction n146 with
            | zero => intro w co pr pa tk σc u14 u15 u16 hn; exact absurd hn (Nat.not_lt_zero _)
            | succ n146 ih146 =>
              intro w co pr pa tk σc u14 u15 u16 hn146 hw hP2 hco hpr2 hpa htk hpr3
              refine g_rg (fun hRL146 => ?_)
              have c790 := hP2.2 79 0 (by omega)
              have c791 := hP2.2 79 1 (by omega)
              have htb2 := tkS_bI hT0 (i := w) hw
              have hp2n := p2_n hT0.2.1
              refine g_iload13 X dL_isProved_146 ?_
              refine g_aload1 X dL_isProved_148 ?_
              refine g_iconst X dL_isProved_149 ?_
              refine g_iald X (ia_79 (by omega)) dL_isProved_150 ?_
              refine g_icmp_ge (tgt := 473) X (by first | exact hRL146 _ _ | exact hRL49 _ _ | exact hR31 _ _ | exact hR26 _ _ | exact hR1 _ _ | exact hR0 _ _ | assumption | (unfold InR; omega)) (by first | exact hRL146 _ _ | exact hRL49 _ _ | exact hR31 _ _ | exact hR26 _ _ | exact hR1 _ _ | exact hR0 _ _ | assumption | (unfold InR; omega)) dL_isProved_151 (by decide) (fun h151 => ?_) (fun h151 => ?_)
              · skip
                have hwm : w = σ (TB 0) 0 := by omega
                rw [hwm] at hco hpr2 hpa htk
                have htkb := tkS_bI hT0 (i := σ (TB 0) 0) ⟨by omega, by omega⟩
                refine g_iconst X dL_isProved_473 ?_
                refine g_istore13 X dL_isProved_474 (by decide) (by first | exact Or.inl rfl | exact Or.inr ⟨_, rfl, rfl⟩) ?_
                have L476 : ∀ (n476 : Nat) (t3 : Int) (σe : St), (σ (TB 0) 1 - t3).toNat < n476 → (0 ≤ t3 ∧ t3 ≤ σ (TB 0) 1) → (PS σ σe) → (∀ j, 0 ≤ j → j < σ (TB 0) 1 → σe 82 j = lpP σ j) → WG E ad 17 σe 476 [some (.ref (ad 0)), some (.ref (ad 79)), some (.ref (ad 80)), some (.ref (ad 81)), some (.int (iI z1)), some (.int (iI co)), some (.int (iI pr)), some (.int (iI p)), some (.int (iI g)), some (.int (iI pa)), some (.int (iI tk)), some (.ref (ad 82)), some (.int (iI 1)), some (.int (iI t3)), u14, u15, u16] [] := by
                  intro n476
                  induction n476 with
                  | zero => intro t3 σe hn; exact absurd hn (Nat.not_lt_zero _)
                  | succ n476 ih476 =>
                    intro t3 σe hn476 ht3 Pe hpe
                    refine g_rg (fun hRL476 => ?_)
                    have f790 := Pe.2 79 0 (by omega)
                    have f791 := Pe.2 79 1 (by omega)
                    refine g_iload13 X dL_isProved_476 ?_
                    refine g_aload1 X dL_isProved_478 ?_
                    refine g_iconst X dL_isProved_479 ?_
                    refine g_iald X (ia_79 (by omega)) dL_isProved_480 ?_
                    refine g_icmp_ge (tgt := 532) X (by first | exact hRL476 _ _ | exact hRL146 _ _ | exact hRL49 _ _ | exact hR31 _ _ | exact hR26 _ _ | exact hR1 _ _ | exact hR0 _ _ | assumption | (unfold InR; omega)) (by first | exact hRL476 _ _ | exact hRL146 _ _ | exact hRL49 _ _ | exact hR31 _ _ | exact hR26 _ _ | exact hR1 _ _ | exact hR0 _ _ | assumption | (unfold InR; omega)) dL_isProved_481 (by decide) (fun h481 => ?_) (fun h481 => ?_)
                    · skip
                      refine g_iload12 X dL_isProved_532 ?_
                      refine g_if_eq (tgt := 589) X (by first | exact hRL476 _ _ | exact hRL146 _ _ | exact hRL49 _ _ | exact hR31 _ _ | exact hR26 _ _ | exact hR1 _ _ | exact hR0 _ _ | assumption | (unfold InR; omega)) dL_isProved_534 (by decide) (fun h534 => ?_) (fun h534 => ?_)
                      · skip
                        exact absurd h534 (by decide) -- CLOSED
                      · skip
                        have hcoT : co = z1 := by rw [hco, pC_all hT0, htot]
                        have hprT : pr - p = z1 := by rw [hpr2, hpp, htot]; exact d_proof hT0
                        have hpb := pLp_b hT0 (i := σ (TB 0) 1) (by omega)
                        rw [← hpp] at hpb
                        have hgb := sG_bd hT0 (i := σ (TB 0) 1) (by omega)
                        rw [← hgg] at hgb
                        have hpab := pP_b (σ := σ) (σ (TB 0) 0).toNat
                        rw [Int.toNat_of_nonneg hm.1, ← hpa] at hpab
                        refine g_iload5 X dL_isProved_537 ?_
                        refine g_iload4 X dL_isProved_539 ?_
                        refine g_icmp_ne (tgt := 589) X (by first | exact hRL476 _ _ | exact hRL146 _ _ | exact hRL49 _ _ | exact hR31 _ _ | exact hR26 _ _ | exact hR1 _ _ | exact hR0 _ _ | assumption | (unfold InR; omega)) (by first | exact hRL476 _ _ | exact hRL146 _ _ | exact hRL49 _ _ | exact hR31 _ _ | exact hR26 _ _ | exact hR1 _ _ | exact hR0 _ _ | assumption | (unfold InR; omega)) dL_isProved_541 (by decide) (fun h541 => ?_) (fun h541 => ?_)
                        · skip
                          exact absurd hcoT h541 -- CLOSED
                        · skip
                          refine g_iload6 X dL_isProved_544 ?_
                          refine g_iload7 X dL_isProved_546 ?_
                          refine g_isub X dL_isProved_548 ?_
                          refine g_iload4 X dL_isProved_549 ?_
                          refine g_icmp_ne (tgt := 589) X (by first | exact hRL476 _ _ | exact hRL146 _ _ | exact hRL49 _ _ | exact hR31 _ _ | exact hR26 _ _ | exact hR1 _ _ | exact hR0 _ _ | assumption | (unfold InR; omega)) (by first | exact hRL476 _ _ | exact hRL146 _ _ | exact hRL49 _ _ | exact hR31 _ _ | exact hR26 _ _ | exact hR1 _ _ | exact hR0 _ _ | assumption | (unfold InR; omega)) dL_isProved_551 (by decide) (fun h551 => ?_) (fun h551 => ?_)
                          · skip
                            exact absurd hprT h551 -- CLOSED
                          · skip
                            refine g_aload0 X dL_isProved_554 ?_
                            refine g_iconst X dL_isProved_555 ?_
                            refine g_I1 X (k_X6_count E Pe.1 (show InR 3 by unfold InR; omega)) gL_isProved_X6_count rfl (by decide +kernel) (by decide) ob_0 (Nat.le_of_ble_eq_true rfl) dL_isProved_556 (fun z556 σ556 hz556 hp556 => ?_)
                            refine g_rg (fun hR556 => ?_)
                            have P556 := Pe.q hp556.2
                            have e556 := (a_count hT0 Pe h80 hp556.1).2.2.2.1 rfl
                            refine g_iload9 X dL_isProved_559 ?_
                            refine g_icmp_ne (tgt := 589) X (by first | exact hR556 _ _ | exact hRL476 _ _ | exact hRL146 _ _ | exact hRL49 _ _ | exact hR31 _ _ | exact hR26 _ _ | exact hR1 _ _ | exact hR0 _ _ | assumption | (unfold InR; omega)) (by first | exact hR556 _ _ | exact hRL476 _ _ | exact hRL146 _ _ | exact hRL49 _ _ | exact hR31 _ _ | exact hR26 _ _ | exact hR1 _ _ | exact hR0 _ _ | assumption | (unfold InR; omega)) dL_isProved_561 (by decide) (fun h561 => ?_) (fun h561 => ?_)
                            · skip
                              exact absurd (e556.trans ((cPP_p σ).trans hpa.symm)) h561 -- CLOSED
                            · skip
                              refine g_aload0 X dL_isProved_564 ?_
                              refine g_iconst X dL_isProved_565 ?_
                              refine g_I1 X (k_X6_count E P556.1 (show InR 5 by unfold InR; omega)) gL_isProved_X6_count rfl (by decide +kernel) (by decide) ob_0 (Nat.le_of_ble_eq_true rfl) dL_isProved_566 (fun z566 σ566 hz566 hp566 => ?_)
                              refine g_rg (fun hR566 => ?_)
                              have P566 := P556.q hp566.2
                              have e566 := (a_count hT0 P556 h80 hp566.1).2.2.2.2.2.1 rfl
                              refine g_iload7 X dL_isProved_569 ?_
                              refine g_icmp_ne (tgt := 589) X (by first | exact hR566 _ _ | exact hR556 _ _ | exact hRL476 _ _ | exact hRL146 _ _ | exact hRL49 _ _ | exact hR31 _ _ | exact hR26 _ _ | exact hR1 _ _ | exact hR0 _ _ | assumption | (unfold InR; omega)) (by first | exact hR566 _ _ | exact hR556 _ _ | exact hRL476 _ _ | exact hRL146 _ _ | exact hRL49 _ _ | exact hR31 _ _ | exact hR26 _ _ | exact hR1 _ _ | exact hR0 _ _ | assumption | (unfold InR; omega)) dL_isProved_571 (by decide) (fun h571 => ?_) (fun h571 => ?_)
                              · skip
                                exact absurd (e566.trans ((sLP_p σ).trans hpp.symm)) h571 -- CLOSED
                              · skip
                                refine g_aload0 X dL_isProved_574 ?_
                                refine g_bipush X dL_isProved_575 (by decide +kernel) ?_
                                refine g_I1 X (k_X6_count E P566.1 (show InR 6 by unfold InR; omega)) gL_isProved_X6_count rfl (by decide +kernel) (by decide) ob_0 (Nat.le_of_ble_eq_true rfl) dL_isProved_577 (fun z577 σ577 hz577 hp577 => ?_)
                                refine g_rg (fun hR577 => ?_)
                                have P577 := P566.q hp577.2
                                have e577 := (a_count hT0 P566 h80 hp577.1).2.2.2.2.2.2.1 rfl
                                refine g_iload8 X dL_isProved_580 ?_
                                refine g_icmp_ne (tgt := 589) X (by first | exact hR577 _ _ | exact hR566 _ _ | exact hR556 _ _ | exact hRL476 _ _ | exact hRL146 _ _ | exact hRL49 _ _ | exact hR31 _ _ | exact hR26 _ _ | exact hR1 _ _ | exact hR0 _ _ | assumption | (unfold InR; omega)) (by first | exact hR577 _ _ | exact hR566 _ _ | exact hR556 _ _ | exact hRL476 _ _ | exact hRL146 _ _ | exact hRL49 _ _ | exact hR31 _ _ | exact hR26 _ _ | exact hR1 _ _ | exact hR0 _ _ | assumption | (unfold InR; omega)) dL_isProved_582 (by decide) (fun h582 => ?_) (fun h582 => ?_)
                                · skip
                                  exact absurd (e577.trans hgg.symm) h582 -- CLOSED
                                · skip
                                  refine g_iconst X dL_isProved_585 ?_
                                  refine g_goto (tgt := 590) X dL_isProved_586 (by decide) ?_
                                  exact g_zretN X hr ha hTB hAp0 had (by first | exact Or.inl rfl | exact Or.inr rfl | omega) ⟨rfl, P577⟩ dL_isProved_590
                    · skip
                      refine g_iload12 X dL_isProved_484 ?_
                      refine g_if_eq (tgt := 532) X (by first | exact hRL476 _ _ | exact hRL146 _ _ | exact hRL49 _ _ | exact hR31 _ _ | exact hR26 _ _ | exact hR1 _ _ | exact hR0 _ _ | assumption | (unfold InR; omega)) dL_isProved_486 (by decide) (fun h486 => ?_) (fun h486 => ?_)
                      · skip
                        exact absurd h486 (by decide) -- CLOSED
                      · skip
                        have hp2z := p2_k (k := t3) (by omega)
                        have hsh0 : 0 ≤ tk / p2 t3 := Int.ediv_nonneg (by omega) (by omega)
                        have hsh1 : tk / p2 t3 ≤ tk := Int.ediv_le_self _ (by omega)
                        have hbt9 : bt tk t3 = tk / p2 t3 % 2 := rfl
                        refine g_iload10 X dL_isProved_489 ?_
                        refine g_iload13 X dL_isProved_491 ?_
                        refine g_ishr X (b_shr (by omega) (by omega)) dL_isProved_493 ?_
                        refine g_iconst X dL_isProved_494 ?_
                        refine g_iand X (b_and1 (by omega)) dL_isProved_495 ?_
                        refine g_iconst X dL_isProved_496 ?_
                        refine g_icmp_eq (tgt := 519) X (by first | exact hRL476 _ _ | exact hRL146 _ _ | exact hRL49 _ _ | exact hR31 _ _ | exact hR26 _ _ | exact hR1 _ _ | exact hR0 _ _ | assumption | (unfold InR; omega)) (by first | exact hRL476 _ _ | exact hRL146 _ _ | exact hRL49 _ _ | exact hR31 _ _ | exact hR26 _ _ | exact hR1 _ _ | exact hR0 _ _ | assumption | (unfold InR; omega)) dL_isProved_497 (by decide) (fun h497 => ?_) (fun h497 => ?_)
                        · skip
                          refine g_iconst X dL_isProved_519 ?_
                          refine g_goto (tgt := 524) X dL_isProved_520 (by decide) ?_
                          refine g_istore12 X dL_isProved_524 (by decide) (by first | exact Or.inl rfl | exact Or.inr ⟨_, rfl, rfl⟩) ?_
                          refine g_iinc13 X dL_isProved_526 (by decide) (by first | exact Or.inl rfl | exact Or.inr ⟨_, rfl, rfl⟩) ?_
                          refine g_goto (tgt := 476) X dL_isProved_529 (by decide) ?_
                          refine ih476 _ _ (by omega) ?_ ?_ ?_
                          · omega
                          · first | exact P503 | exact Pe
                          · first | exact hpe | (intro j a b; rw [q503]; exact hpe j a b)
                        · skip
                          refine g_aload0 X dL_isProved_500 ?_
                          refine g_iload13 X dL_isProved_501 ?_
                          refine g_I1 X (k_X6_workerOf E Pe.1 (show InR t3 by unfold InR; omega)) gL_isProved_X6_workerOf rfl (by decide +kernel) (by decide) ob_0 (Nat.le_of_ble_eq_true rfl) dL_isProved_503 (fun z503 σ503 hz503 hp503 => ?_)
                          refine g_rg (fun hR503 => ?_)
                          have P503 := Pe.q hp503.2
                          have hno : ∀ v, 0 ≤ v → v < σ (TB 0) 0 → fP σ v ≠ t3 := fun v a b g9 => h497 (by
                            have h9 := (tkS_bt hT0 (j := t3) (by omega) (σ (TB 0) 0).toNat (by omega)).mpr ⟨v, by omega, g9⟩
                            rw [Int.toNat_of_nonneg hm.1, ← htk] at h9
                            omega)
                          have e503 := a_work hT0 Pe (x1 := t3) (by omega) hp503.1
                          rw [wOf_no hT0 hno, if_pos rfl] at e503
                          have hfree := F_free hT0 (j := t3) (by omega) hno
                          have q503 : ∀ j, σ503 82 j = σe 82 j := fun j => hp503.2.1 82 j (by omega) (by omega) (by omega) (by omega) (by omega)
                          refine g_bipush X dL_isProved_506 (by decide +kernel) ?_
                          refine g_icmp_ne (tgt := 523) X (by first | exact hR503 _ _ | exact hRL476 _ _ | exact hRL146 _ _ | exact hRL49 _ _ | exact hR31 _ _ | exact hR26 _ _ | exact hR1 _ _ | exact hR0 _ _ | assumption | (unfold InR; omega)) (by first | exact hR503 _ _ | exact hRL476 _ _ | exact hRL146 _ _ | exact hRL49 _ _ | exact hR31 _ _ | exact hR26 _ _ | exact hR1 _ _ | exact hR0 _ _ | assumption | (unfold InR; omega)) dL_isProved_508 (by decide) (fun h508 => ?_) (fun h508 => ?_)
                          · skip
                            exact absurd e503 h508 -- CLOSED
                          · skip
                            refine g_aload11 X dL_isProved_511 ?_
                            refine g_iload13 X dL_isProved_513 ?_
                            refine g_ialdN X (ia_82 ha82 (by omega)) dL_isProved_515 ?_
                            refine g_if_ne (tgt := 523) X (by first | exact hR503 _ _ | exact hRL476 _ _ | exact hRL146 _ _ | exact hRL49 _ _ | exact hR31 _ _ | exact hR26 _ _ | exact hR1 _ _ | exact hR0 _ _ | assumption | (unfold InR; omega)) dL_isProved_516 (by decide) (fun h516 => ?_) (fun h516 => ?_)
                            · skip
                              exfalso
                              rw [q503, hpe t3 (by omega) (by omega)] at h516
                              omega -- CLOSED
                            · skip
                              refine g_iconst X dL_isProved_519 ?_
                              refine g_goto (tgt := 524) X dL_isProved_520 (by decide) ?_
                              refine g_istore12 X dL_isProved_524 (by decide) (by first | exact Or.inl rfl | exact Or.inr ⟨_, rfl, rfl⟩) ?_
                              refine g_iinc13 X dL_isProved_526 (by decide) (by first | exact Or.inl rfl | exact Or.inr ⟨_, rfl, rfl⟩) ?_
                              refine g_goto (tgt := 476) X dL_isProved_529 (by decide) ?_
                              refine ih476 _ _ (by omega) ?_ ?_ ?_
                              · omega
                              · first | exact P503 | exact Pe
                              · first | exact hpe | (intro j a b; rw [q503]; exact hpe j a b)
                refine L476 _ _ _ (Nat.lt_succ_self _) ?_ ?_ ?_
                · omega
                · exact hP2
                · exact hpr3
              · skip
                refine g_iload12 X dL_isProved_154 ?_
                refine g_if_eq (tgt := 473) X (by first | exact hRL146 _ _ | exact hRL49 _ _ | exact hR31 _ _ | exact hR26 _ _ | exact hR1 _ _ | exact hR0 _ _ | assumption | (unfold InR; omega)) dL_isProved_156 (by decide) (fun h156 => ?_) (fun h156 => ?_)
                · skip
                  exact absurd h156 (by decide) -- CLOSED
                · skip
                  refine g_aload0 X dL_isProved_159 ?_
                  refine g_iload13 X dL_isProved_160 ?_
                  refine g_I1 X (k_X6_taskOf E hP2.1 (show InR w by unfold InR; omega)) gL_isProved_X6_taskOf rfl (by decide +kernel) (by decide) ob_0 (Nat.le_of_ble_eq_true rfl) dL_isProved_162 (fun z162 σ162 hz162 hp162 => ?_)
                  refine g_rg (fun hR162 => ?_)
                  have P162 := hP2.q hp162.2
                  have e162 := a_task hT0 hP2 (x1 := w) (by omega) hp162.1
                  have hfst := fP_st hT0 (w := w) (by omega)
                  have hfr := fP_r hT0 w
                  have q162 : ∀ j, σ162 82 j = σc 82 j := fun j => hp162.2.1 82 j (by omega) (by omega) (by omega) (by omega) (by omega)
                  refine g_istore14 X dL_isProved_165 (by decide) (by first | exact Or.inl rfl | exact Or.inr ⟨_, rfl, rfl⟩) ?_
                  have J221 : ∀ (σd : St), (PS σ σd) → (∀ j, 0 ≤ j → j < σ (TB 0) 1 → σd 82 j = lpP σ j) → WG E ad 17 σd 221 [some (.ref (ad 0)), some (.ref (ad 79)), some (.ref (ad 80)), some (.ref (ad 81)), some (.int (iI z1)), some (.int (iI co)), some (.int (iI pr)), some (.int (iI p)), some (.int (iI g)), some (.int (iI pa)), some (.int (iI tk)), some (.ref (ad 82)), some (.int (iI 1)), some (.int (iI w)), some (.int (iI z162)), u15, u16] [] := by
                    intro σd Pd hprd
                    have d790 := Pd.2 79 0 (by omega)
                    have d791 := Pd.2 79 1 (by omega)
                    refine g_iconst X dL_isProved_221 ?_
                    refine g_goto (tgt := 226) X dL_isProved_222 (by decide) ?_
                    refine g_istore12 X dL_isProved_226 (by decide) (by first | exact Or.inl rfl | exact Or.inr ⟨_, rfl, rfl⟩) ?_
                    refine g_iload12 X dL_isProved_228 ?_
                    refine g_if_eq (tgt := 467) X (by first | exact hR162 _ _ | exact hRL146 _ _ | exact hRL49 _ _ | exact hR31 _ _ | exact hR26 _ _ | exact hR1 _ _ | exact hR0 _ _ | assumption | (unfold InR; omega)) dL_isProved_230 (by decide) (fun h230 => ?_) (fun h230 => ?_)
                    · skip
                      exact absurd h230 (by decide) -- CLOSED
                    · skip
                      refine g_iload5 X dL_isProved_233 ?_
                      have J257 : ∀ (x : Int), (x = cst σ w (fP σ w)) → WG E ad 17 σd 257 [some (.ref (ad 0)), some (.ref (ad 79)), some (.ref (ad 80)), some (.ref (ad 81)), some (.int (iI z1)), some (.int (iI co)), some (.int (iI pr)), some (.int (iI p)), some (.int (iI g)), some (.int (iI pa)), some (.int (iI tk)), some (.ref (ad 82)), some (.int (iI 1)), some (.int (iI w)), some (.int (iI z162)), u15, u16] [.int (iI x), .int (iI co)] := by
                        intro x hx
                        refine g_iadd X dL_isProved_257 ?_
                        refine g_istore5 X dL_isProved_258 (by decide) (by first | exact Or.inl rfl | exact Or.inr ⟨_, rfl, rfl⟩) ?_
                        refine g_iload10 X dL_isProved_260 ?_
                        have J275 : ∀ (x2 : Int), ((fP σ w = -1 ∧ x2 = 0) ∨ (0 ≤ fP σ w ∧ x2 = p2 (fP σ w))) → WG E ad 17 σd 275 [some (.ref (ad 0)), some (.ref (ad 79)), some (.ref (ad 80)), some (.ref (ad 81)), some (.int (iI z1)), some (.int (iI (co + x))), some (.int (iI pr)), some (.int (iI p)), some (.int (iI g)), some (.int (iI pa)), some (.int (iI tk)), some (.ref (ad 82)), some (.int (iI 1)), some (.int (iI w)), some (.int (iI z162)), u15, u16] [.int (iI x2), .int (iI tk)] := by
                          intro x2 hx2
                          have hor : iI tk ||| iI x2 = iI (tkS σ (w + 1)) := by
                            rcases hfst.1 with ⟨g1, g2⟩ | ⟨g1, g2⟩
                            · rw [g2, ← htk, show x2 = 0 by omega]
                              exact b_or0 (by omega)
                            · rw [g2, ← htk, show x2 = p2 (fP σ w) by omega]
                              exact b_or (by omega) (by omega)
                          refine g_ior X hor dL_isProved_275 ?_
                          refine g_istore10 X dL_isProved_276 (by decide) (by first | exact Or.inl rfl | exact Or.inr ⟨_, rfl, rfl⟩) ?_
                          refine g_iload9 X dL_isProved_278 ?_
                          have J290 : ∀ (x3 : Int), ((fP σ w = -1 ∧ x3 = 0) ∨ (0 ≤ fP σ w ∧ x3 = 1)) → WG E ad 17 σd 290 [some (.ref (ad 0)), some (.ref (ad 79)), some (.ref (ad 80)), some (.ref (ad 81)), some (.int (iI z1)), some (.int (iI (co + x))), some (.int (iI pr)), some (.int (iI p)), some (.int (iI g)), some (.int (iI pa)), some (.int (iI (tkS σ (w + 1)))), some (.ref (ad 82)), some (.int (iI 1)), some (.int (iI w)), some (.int (iI z162)), u15, u16] [.int (iI x3), .int (iI pa)] := by
                            intro x3 hx3
                            refine g_iadd X dL_isProved_290 ?_
                            refine g_istore9 X dL_isProved_291 (by decide) (by first | exact Or.inl rfl | exact Or.inr ⟨_, rfl, rfl⟩) ?_
                            refine g_aload3 X dL_isProved_293 ?_
                            refine g_iload13 X dL_isProved_294 ?_
                            refine g_iald X (ia_81 (by omega)) dL_isProved_296 ?_
                            rw [show σd 81 w = σ (TI 0) w from (Pd.2 81 w (by omega)).trans (h81 w (by omega) (by omega))]
                            refine g_istore15 X dL_isProved_297 (by decide) (by first | exact Or.inl rfl | exact Or.inr ⟨_, rfl, rfl⟩) ?_
                            refine g_iconst X dL_isProved_299 ?_
                            refine g_istore16 X dL_isProved_300 (by decide) (by first | exact Or.inl rfl | exact Or.inr ⟨_, rfl, rfl⟩) ?_
                            have L302 : ∀ (n302 : Nat) (j wo : Int), (σ (TB 0) 1 - j).toNat < n302 → (0 ≤ j ∧ j ≤ σ (TB 0) 1) → (wo = pw σ w j) → WG E ad 17 σd 302 [some (.ref (ad 0)), some (.ref (ad 79)), some (.ref (ad 80)), some (.ref (ad 81)), some (.int (iI z1)), some (.int (iI (co + x))), some (.int (iI pr)), some (.int (iI p)), some (.int (iI g)), some (.int (iI (pa + x3))), some (.int (iI (tkS σ (w + 1)))), some (.ref (ad 82)), some (.int (iI 1)), some (.int (iI w)), some (.int (iI z162)), some (.int (iI wo)), some (.int (iI j))] [] := by
                              intro n302
                              induction n302 with
                              | zero => intro j wo hn; exact absurd hn (Nat.not_lt_zero _)
                              | succ n302 ih302 =>
                                intro j wo hn302 hj hwo
                                refine g_rg (fun hRL302 => ?_)
                                have hwb := pw_b hT0 (w := w) (by omega) j.toNat (by omega)
                                rw [Int.toNat_of_nonneg hj.1, ← hwo] at hwb
                                refine g_iload16 X dL_isProved_302 ?_
                                refine g_aload1 X dL_isProved_304 ?_
                                refine g_iconst X dL_isProved_305 ?_
                                refine g_iald X (ia_79 (by omega)) dL_isProved_306 ?_
                                refine g_icmp_ge (tgt := 373) X (by first | exact hRL302 _ _ | exact hR162 _ _ | exact hRL146 _ _ | exact hRL49 _ _ | exact hR31 _ _ | exact hR26 _ _ | exact hR1 _ _ | exact hR0 _ _ | assumption | (unfold InR; omega)) (by first | exact hRL302 _ _ | exact hR162 _ _ | exact hRL146 _ _ | exact hRL49 _ _ | exact hR31 _ _ | exact hR26 _ _ | exact hR1 _ _ | exact hR0 _ _ | assumption | (unfold InR; omega)) dL_isProved_307 (by decide) (fun h307 => ?_) (fun h307 => ?_)
                                · skip
                                  have hjn : j = σ (TB 0) 1 := by omega
                                  rw [hjn] at hwo
                                  have hwP : wo = wOP σ w := hwo
                                  have hti9 := F_tight hT0 (w := w) (by omega)
                                  refine g_iload6 X dL_isProved_373 ?_
                                  refine g_iload15 X dL_isProved_375 ?_
                                  refine g_iadd X dL_isProved_377 ?_
                                  refine g_istore6 X dL_isProved_378 (by decide) (by first | exact Or.inl rfl | exact Or.inr ⟨_, rfl, rfl⟩) ?_
                                  refine g_aload0 X dL_isProved_380 ?_
                                  refine g_iload13 X dL_isProved_381 ?_
                                  refine g_iconst X dL_isProved_383 ?_
                                  refine g_I2 X (k_X6_workerIs E Pd.1 (show InR w by unfold InR; omega) InR_0) gL_isProved_X6_workerIs rfl (by decide +kernel) (by decide) ob_0 (Nat.le_of_ble_eq_true rfl) dL_isProved_384 (fun z384 σ384 hz384 hp384 => ?_)
                                  refine g_rg (fun hR384 => ?_)
                                  have P384 := Pd.q hp384.2
                                  have e384 := (a_is hT0 Pd (x1 := w) (by omega) hp384.1).1 rfl
                                  have q384 : ∀ j, σ384 82 j = σd 82 j := fun j => hp384.2.1 82 j (by omega) (by omega) (by omega) (by omega) (by omega)
                                  refine g_iload15 X dL_isProved_387 ?_
                                  refine g_icmp_ne (tgt := 464) X (by first | exact hR384 _ _ | exact hRL302 _ _ | exact hR162 _ _ | exact hRL146 _ _ | exact hRL49 _ _ | exact hR31 _ _ | exact hR26 _ _ | exact hR1 _ _ | exact hR0 _ _ | assumption | (unfold InR; omega)) (by first | exact hR384 _ _ | exact hRL302 _ _ | exact hR162 _ _ | exact hRL146 _ _ | exact hRL49 _ _ | exact hR31 _ _ | exact hR26 _ _ | exact hR1 _ _ | exact hR0 _ _ | assumption | (unfold InR; omega)) dL_isProved_389 (by decide) (fun h389 => ?_) (fun h389 => ?_)
                                  · skip
                                    exfalso
                                    omega -- CLOSED
                                  · skip
                                    refine g_aload0 X dL_isProved_392 ?_
                                    refine g_iload13 X dL_isProved_393 ?_
                                    refine g_iconst X dL_isProved_395 ?_
                                    refine g_I2 X (k_X6_workerIs E P384.1 (show InR w by unfold InR; omega) (show InR 2 by unfold InR; omega)) gL_isProved_X6_workerIs rfl (by decide +kernel) (by decide) ob_0 (Nat.le_of_ble_eq_true rfl) dL_isProved_396 (fun z396 σ396 hz396 hp396 => ?_)
                                    refine g_rg (fun hR396 => ?_)
                                    have P396 := P384.q hp396.2
                                    have e396 := (a_is hT0 P384 (x1 := w) (by omega) hp396.1).2.2.1 rfl
                                    have q396 : ∀ j, σ396 82 j = σ384 82 j := fun j => hp396.2.1 82 j (by omega) (by omega) (by omega) (by omega) (by omega)
                                    have d81 : σ396 81 w = σ (TI 0) w := (P396.2 81 w (by omega)).trans (h81 w (by omega) (by omega))
                                    have hdb9 := hti w (by omega) (by omega)
                                    have J413 : ∀ (x4 : Int), (x4 = z396) → WG E ad 17 σ396 413 [some (.ref (ad 0)), some (.ref (ad 79)), some (.ref (ad 80)), some (.ref (ad 81)), some (.int (iI z1)), some (.int (iI (co + x))), some (.int (iI (pr + wo))), some (.int (iI p)), some (.int (iI g)), some (.int (iI (pa + x3))), some (.int (iI (tkS σ (w + 1)))), some (.ref (ad 82)), some (.int (iI 1)), some (.int (iI w)), some (.int (iI z162)), some (.int (iI wo)), some (.int (iI j))] [.int (iI x4), .int (iI z396)] := by
                                      intro x4 hx4
                                      refine g_icmp_ne (tgt := 464) X (by first | exact hR396 _ _ | exact hR384 _ _ | exact hRL302 _ _ | exact hR162 _ _ | exact hRL146 _ _ | exact hRL49 _ _ | exact hR31 _ _ | exact hR26 _ _ | exact hR1 _ _ | exact hR0 _ _ | assumption | (unfold InR; omega)) (by first | exact hR396 _ _ | exact hR384 _ _ | exact hRL302 _ _ | exact hR162 _ _ | exact hRL146 _ _ | exact hRL49 _ _ | exact hR31 _ _ | exact hR26 _ _ | exact hR1 _ _ | exact hR0 _ _ | assumption | (unfold InR; omega)) dL_isProved_413 (by decide) (fun h413 => ?_) (fun h413 => ?_)
                                      · skip
                                        exfalso
                                        omega -- CLOSED
                                      · skip
                                        refine g_iload15 X dL_isProved_416 ?_
                                        have J446 : ∀ (x5 : Int), (x5 = cst σ w (fP σ w) + lp0 σ (fP σ w)) → WG E ad 17 σ396 446 [some (.ref (ad 0)), some (.ref (ad 79)), some (.ref (ad 80)), some (.ref (ad 81)), some (.int (iI z1)), some (.int (iI (co + x))), some (.int (iI (pr + wo))), some (.int (iI p)), some (.int (iI g)), some (.int (iI (pa + x3))), some (.int (iI (tkS σ (w + 1)))), some (.ref (ad 82)), some (.int (iI 1)), some (.int (iI w)), some (.int (iI z162)), some (.int (iI wo)), some (.int (iI j))] [.int (iI x5), .int (iI wo)] := by
                                          intro x5 hx5
                                          refine g_icmp_ne (tgt := 464) X (by first | exact hR396 _ _ | exact hR384 _ _ | exact hRL302 _ _ | exact hR162 _ _ | exact hRL146 _ _ | exact hRL49 _ _ | exact hR31 _ _ | exact hR26 _ _ | exact hR1 _ _ | exact hR0 _ _ | assumption | (unfold InR; omega)) (by first | exact hR396 _ _ | exact hR384 _ _ | exact hRL302 _ _ | exact hR162 _ _ | exact hRL146 _ _ | exact hRL49 _ _ | exact hR31 _ _ | exact hR26 _ _ | exact hR1 _ _ | exact hR0 _ _ | assumption | (unfold InR; omega)) dL_isProved_446 (by decide) (fun h446 => ?_) (fun h446 => ?_)
                                          · skip
                                            exfalso
                                            omega -- CLOSED
                                          · skip
                                            refine g_aload0 X dL_isProved_449 ?_
                                            refine g_iload13 X dL_isProved_450 ?_
                                            refine g_iconst X dL_isProved_452 ?_
                                            refine g_I2 X (k_X6_workerIs E P396.1 (show InR w by unfold InR; omega) (show InR 4 by unfold InR; omega)) gL_isProved_X6_workerIs rfl (by decide +kernel) (by decide) ob_0 (Nat.le_of_ble_eq_true rfl) dL_isProved_453 (fun z453 σ453 hz453 hp453 => ?_)
                                            refine g_rg (fun hR453 => ?_)
                                            have P453 := P396.q hp453.2
                                            have e453 := (a_is hT0 P396 (x1 := w) (by omega) hp453.1).2.2.2 rfl
                                            have q453 : ∀ j, σ453 82 j = σ396 82 j := fun j => hp453.2.1 82 j (by omega) (by omega) (by omega) (by omega) (by omega)
                                            refine g_iconst X dL_isProved_456 ?_
                                            refine g_icmp_ne (tgt := 464) X (by first | exact hR453 _ _ | exact hR396 _ _ | exact hR384 _ _ | exact hRL302 _ _ | exact hR162 _ _ | exact hRL146 _ _ | exact hRL49 _ _ | exact hR31 _ _ | exact hR26 _ _ | exact hR1 _ _ | exact hR0 _ _ | assumption | (unfold InR; omega)) (by first | exact hR453 _ _ | exact hR396 _ _ | exact hR384 _ _ | exact hRL302 _ _ | exact hR162 _ _ | exact hRL146 _ _ | exact hRL49 _ _ | exact hR31 _ _ | exact hR26 _ _ | exact hR1 _ _ | exact hR0 _ _ | assumption | (unfold InR; omega)) dL_isProved_457 (by decide) (fun h457 => ?_) (fun h457 => ?_)
                                            · skip
                                              exact absurd e453 h457 -- CLOSED
                                            · skip
                                              refine g_iconst X dL_isProved_460 ?_
                                              refine g_goto (tgt := 465) X dL_isProved_461 (by decide) ?_
                                              refine g_istore12 X dL_isProved_465 (by decide) (by first | exact Or.inl rfl | exact Or.inr ⟨_, rfl, rfl⟩) ?_
                                              refine g_iinc13 X dL_isProved_467 (by decide) (by first | exact Or.inl rfl | exact Or.inr ⟨_, rfl, rfl⟩) ?_
                                              refine g_goto (tgt := 146) X dL_isProved_470 (by decide) ?_
                                              refine ih146 _ _ _ _ _ _ _ _ _ (by omega) ?_ ?_ ?_ ?_ ?_ ?_ ?_
                                              · omega
                                              · exact P453
                                              · rw [hx, hco]; exact (pC_s hw.1).symm
                                              · rw [hwP, hpr2]; exact (pWo_s hw.1).symm
                                              · rw [hpa, pP_s hw.1]
                                                by_cases g9 : fP σ w = -1
                                                · rw [if_pos g9]; omega
                                                · rw [if_neg g9]; omega
                                              · rfl
                                              · intro j a b
                                                rw [q453, q396, q384]
                                                exact hprd j a b
                                        refine g_iload14 X dL_isProved_418 ?_
                                        refine g_if_ge (tgt := 430) X (by first | exact hR396 _ _ | exact hR384 _ _ | exact hRL302 _ _ | exact hR162 _ _ | exact hRL146 _ _ | exact hRL49 _ _ | exact hR31 _ _ | exact hR26 _ _ | exact hR1 _ _ | exact hR0 _ _ | assumption | (unfold InR; omega)) dL_isProved_420 (by decide) (fun h420 => ?_) (fun h420 => ?_)
                                        · skip
                                          refine g_aload2 X dL_isProved_430 ?_
                                          refine g_bipush X dL_isProved_431 (by decide +kernel) ?_
                                          refine g_iload13 X dL_isProved_433 ?_
                                          refine g_imul X dL_isProved_435 ?_
                                          refine g_iload14 X dL_isProved_436 ?_
                                          refine g_iadd X dL_isProved_438 ?_
                                          refine g_iald X (ia_80 (by omega)) dL_isProved_439 ?_
                                          refine g_aload11 X dL_isProved_440 ?_
                                          refine g_iload14 X dL_isProved_442 ?_
                                          refine g_ialdN X (ia_82 ha82 (by omega)) dL_isProved_444 ?_
                                          refine g_iadd X dL_isProved_445 ?_
                                          first
                                          | exact J446 _ (by rw [show fP σ w = -1 by omega, cst_i, d81, show lp0 σ (-1) = 0 from if_neg (by omega)]; omega)
                                          | exact J446 _ (by rw [cst_t (by omega), show lp0 σ (fP σ w) = lpP σ (fP σ w) from if_pos (by omega), P396.2 80 _ (by omega), q396, q384, show z162 = fP σ w by omega, hc80 w (fP σ w) (by omega) (by omega) (by omega) (by omega), hprd (fP σ w) (by omega) (by omega)])
                                        · skip
                                          refine g_aload3 X dL_isProved_423 ?_
                                          refine g_iload13 X dL_isProved_424 ?_
                                          refine g_iald X (ia_81 (by omega)) dL_isProved_426 ?_
                                          refine g_goto (tgt := 446) X dL_isProved_427 (by decide) ?_
                                          first
                                          | exact J446 _ (by rw [show fP σ w = -1 by omega, cst_i, d81, show lp0 σ (-1) = 0 from if_neg (by omega)]; omega)
                                          | exact J446 _ (by rw [cst_t (by omega), show lp0 σ (fP σ w) = lpP σ (fP σ w) from if_pos (by omega), P396.2 80 _ (by omega), q396, q384, show z162 = fP σ w by omega, hc80 w (fP σ w) (by omega) (by omega) (by omega) (by omega), hprd (fP σ w) (by omega) (by omega)])
                                    refine g_iload15 X dL_isProved_399 ?_
                                    refine g_aload3 X dL_isProved_401 ?_
                                    refine g_iload13 X dL_isProved_402 ?_
                                    refine g_iald X (ia_81 (by omega)) dL_isProved_404 ?_
                                    refine g_icmp_ne (tgt := 412) X (by first | exact hR396 _ _ | exact hR384 _ _ | exact hRL302 _ _ | exact hR162 _ _ | exact hRL146 _ _ | exact hRL49 _ _ | exact hR31 _ _ | exact hR26 _ _ | exact hR1 _ _ | exact hR0 _ _ | assumption | (unfold InR; omega)) (by first | exact hR396 _ _ | exact hR384 _ _ | exact hRL302 _ _ | exact hR162 _ _ | exact hRL146 _ _ | exact hRL49 _ _ | exact hR31 _ _ | exact hR26 _ _ | exact hR1 _ _ | exact hR0 _ _ | assumption | (unfold InR; omega)) dL_isProved_405 (by decide) (fun h405 => ?_) (fun h405 => ?_)
                                    · skip
                                      refine g_iconst X dL_isProved_412 ?_
                                      exact J413 _ (by omega)
                                    · skip
                                      refine g_iconst X dL_isProved_408 ?_
                                      refine g_goto (tgt := 413) X dL_isProved_409 (by decide) ?_
                                      exact J413 _ (by omega)
                                · skip
                                  have hcj : σd 80 (7 * w + j) = σ (TR 0 w) j := (Pd.2 80 _ (by omega)).trans (hc80 w j (by omega) (by omega) (by omega) (by omega))
                                  have hcjb := htc w j (by omega) (by omega) (by omega) (by omega)
                                  have hlj := lpP_b hT0 (j := j) (by omega)
                                  have hpj := hprd j (by omega) (by omega)
                                  have hib := isB_c (σ := σ) (w := w) (j := j) (by omega)
                                  refine g_aload2 X dL_isProved_310 ?_
                                  refine g_bipush X dL_isProved_311 (by decide +kernel) ?_
                                  refine g_iload13 X dL_isProved_313 ?_
                                  refine g_imul X dL_isProved_315 ?_
                                  refine g_iload16 X dL_isProved_316 ?_
                                  refine g_iadd X dL_isProved_318 ?_
                                  refine g_iald X (ia_80 (by omega)) dL_isProved_319 ?_
                                  refine g_if_lt (tgt := 363) X (by first | exact hRL302 _ _ | exact hR162 _ _ | exact hRL146 _ _ | exact hRL49 _ _ | exact hR31 _ _ | exact hR26 _ _ | exact hR1 _ _ | exact hR0 _ _ | assumption | (unfold InR; omega)) dL_isProved_320 (by decide) (fun h320 => ?_) (fun h320 => ?_)
                                  · skip
                                    refine g_iload15 X dL_isProved_363 ?_
                                    refine g_istore15 X dL_isProved_365 (by decide) (by first | exact Or.inl rfl | exact Or.inr ⟨_, rfl, rfl⟩) ?_
                                    refine g_iinc16 X dL_isProved_367 (by decide) (by first | exact Or.inl rfl | exact Or.inr ⟨_, rfl, rfl⟩) ?_
                                    refine g_goto (tgt := 302) X dL_isProved_370 (by decide) ?_
                                    refine ih302 _ _ (by omega) ?_ ?_
                                    · omega
                                    · rw [pw_s hj.1]
                                      by_cases g9 : isB σ 0 w j = 1
                                      · rw [if_pos g9]; have g7 := hib.mp g9; omega
                                      · rw [if_neg g9]; have g8 : σ (TR 0 w) j ≠ -1 := fun g7 => g9 (hib.mpr g7)
                                        omega
                                  · skip
                                    refine g_aload2 X dL_isProved_323 ?_
                                    refine g_bipush X dL_isProved_324 (by decide +kernel) ?_
                                    refine g_iload13 X dL_isProved_326 ?_
                                    refine g_imul X dL_isProved_328 ?_
                                    refine g_iload16 X dL_isProved_329 ?_
                                    refine g_iadd X dL_isProved_331 ?_
                                    refine g_iald X (ia_80 (by omega)) dL_isProved_332 ?_
                                    refine g_aload11 X dL_isProved_333 ?_
                                    refine g_iload16 X dL_isProved_335 ?_
                                    refine g_ialdN X (ia_82 ha82 (by omega)) dL_isProved_337 ?_
                                    refine g_iadd X dL_isProved_338 ?_
                                    refine g_iload15 X dL_isProved_339 ?_
                                    refine g_icmp_ge (tgt := 363) X (by first | exact hRL302 _ _ | exact hR162 _ _ | exact hRL146 _ _ | exact hRL49 _ _ | exact hR31 _ _ | exact hR26 _ _ | exact hR1 _ _ | exact hR0 _ _ | assumption | (unfold InR; omega)) (by first | exact hRL302 _ _ | exact hR162 _ _ | exact hRL146 _ _ | exact hRL49 _ _ | exact hR31 _ _ | exact hR26 _ _ | exact hR1 _ _ | exact hR0 _ _ | assumption | (unfold InR; omega)) dL_isProved_341 (by decide) (fun h341 => ?_) (fun h341 => ?_)
                                    · skip
                                      refine g_iload15 X dL_isProved_363 ?_
                                      refine g_istore15 X dL_isProved_365 (by decide) (by first | exact Or.inl rfl | exact Or.inr ⟨_, rfl, rfl⟩) ?_
                                      refine g_iinc16 X dL_isProved_367 (by decide) (by first | exact Or.inl rfl | exact Or.inr ⟨_, rfl, rfl⟩) ?_
                                      refine g_goto (tgt := 302) X dL_isProved_370 (by decide) ?_
                                      refine ih302 _ _ (by omega) ?_ ?_
                                      · omega
                                      · rw [pw_s hj.1]
                                        by_cases g9 : isB σ 0 w j = 1
                                        · rw [if_pos g9]; have g7 := hib.mp g9; omega
                                        · rw [if_neg g9]; have g8 : σ (TR 0 w) j ≠ -1 := fun g7 => g9 (hib.mpr g7)
                                          omega
                                    · skip
                                      refine g_aload2 X dL_isProved_344 ?_
                                      refine g_bipush X dL_isProved_345 (by decide +kernel) ?_
                                      refine g_iload13 X dL_isProved_347 ?_
                                      refine g_imul X dL_isProved_349 ?_
                                      refine g_iload16 X dL_isProved_350 ?_
                                      refine g_iadd X dL_isProved_352 ?_
                                      refine g_iald X (ia_80 (by omega)) dL_isProved_353 ?_
                                      refine g_aload11 X dL_isProved_354 ?_
                                      refine g_iload16 X dL_isProved_356 ?_
                                      refine g_ialdN X (ia_82 ha82 (by omega)) dL_isProved_358 ?_
                                      refine g_iadd X dL_isProved_359 ?_
                                      refine g_goto (tgt := 365) X dL_isProved_360 (by decide) ?_
                                      refine g_istore15 X dL_isProved_365 (by decide) (by first | exact Or.inl rfl | exact Or.inr ⟨_, rfl, rfl⟩) ?_
                                      refine g_iinc16 X dL_isProved_367 (by decide) (by first | exact Or.inl rfl | exact Or.inr ⟨_, rfl, rfl⟩) ?_
                                      refine g_goto (tgt := 302) X dL_isProved_370 (by decide) ?_
                                      refine ih302 _ _ (by omega) ?_ ?_
                                      · omega
                                      · rw [pw_s hj.1]
                                        by_cases g9 : isB σ 0 w j = 1
                                        · rw [if_pos g9]; have g7 := hib.mp g9; omega
                                        · rw [if_neg g9]; have g8 : σ (TR 0 w) j ≠ -1 := fun g7 => g9 (hib.mpr g7)
                                          omega
                            refine L302 _ _ _ (Nat.lt_succ_self _) ?_ ?_
                            · omega
                            · rfl
                          refine g_iload14 X dL_isProved_280 ?_
                          refine g_if_ge (tgt := 289) X (by first | exact hR162 _ _ | exact hRL146 _ _ | exact hRL49 _ _ | exact hR31 _ _ | exact hR26 _ _ | exact hR1 _ _ | exact hR0 _ _ | assumption | (unfold InR; omega)) dL_isProved_282 (by decide) (fun h282 => ?_) (fun h282 => ?_)
                          · skip
                            refine g_iconst X dL_isProved_289 ?_
                            exact J290 _ (by omega)
                          · skip
                            refine g_iconst X dL_isProved_285 ?_
                            refine g_goto (tgt := 290) X dL_isProved_286 (by decide) ?_
                            exact J290 _ (by omega)
                        refine g_iload14 X dL_isProved_262 ?_
                        refine g_if_ge (tgt := 271) X (by first | exact hR162 _ _ | exact hRL146 _ _ | exact hRL49 _ _ | exact hR31 _ _ | exact hR26 _ _ | exact hR1 _ _ | exact hR0 _ _ | assumption | (unfold InR; omega)) dL_isProved_264 (by decide) (fun h264 => ?_) (fun h264 => ?_)
                        · skip
                          refine g_iconst X dL_isProved_271 ?_
                          refine g_iload14 X dL_isProved_272 ?_
                          refine g_ishl X (b_shl (by omega)) dL_isProved_274 ?_
                          exact J275 _ (by first | exact Or.inl ⟨by omega, rfl⟩ | exact Or.inr ⟨by omega, by rw [show z162 = fP σ w by omega]⟩)
                        · skip
                          refine g_iconst X dL_isProved_267 ?_
                          refine g_goto (tgt := 275) X dL_isProved_268 (by decide) ?_
                          exact J275 _ (by first | exact Or.inl ⟨by omega, rfl⟩ | exact Or.inr ⟨by omega, by rw [show z162 = fP σ w by omega]⟩)
                      refine g_iload14 X dL_isProved_235 ?_
                      refine g_if_ge (tgt := 247) X (by first | exact hR162 _ _ | exact hRL146 _ _ | exact hRL49 _ _ | exact hR31 _ _ | exact hR26 _ _ | exact hR1 _ _ | exact hR0 _ _ | assumption | (unfold InR; omega)) dL_isProved_237 (by decide) (fun h237 => ?_) (fun h237 => ?_)
                      · skip
                        refine g_aload2 X dL_isProved_247 ?_
                        refine g_bipush X dL_isProved_248 (by decide +kernel) ?_
                        refine g_iload13 X dL_isProved_250 ?_
                        refine g_imul X dL_isProved_252 ?_
                        refine g_iload14 X dL_isProved_253 ?_
                        refine g_iadd X dL_isProved_255 ?_
                        refine g_iald X (ia_80 (by omega)) dL_isProved_256 ?_
                        first
                        | exact J257 _ (by rw [show fP σ w = -1 by omega, cst_i, Pd.2 81 w (by omega)]; exact h81 w (by omega) (by omega))
                        | exact J257 _ (by rw [cst_t (by omega), Pd.2 80 _ (by omega), show z162 = fP σ w by omega]; exact hc80 w (fP σ w) (by omega) (by omega) (by omega) (by omega))
                      · skip
                        refine g_aload3 X dL_isProved_240 ?_
                        refine g_iload13 X dL_isProved_241 ?_
                        refine g_iald X (ia_81 (by omega)) dL_isProved_243 ?_
                        refine g_goto (tgt := 257) X dL_isProved_244 (by decide) ?_
                        first
                        | exact J257 _ (by rw [show fP σ w = -1 by omega, cst_i, Pd.2 81 w (by omega)]; exact h81 w (by omega) (by omega))
                        | exact J257 _ (by rw [cst_t (by omega), Pd.2 80 _ (by omega), show z162 = fP σ w by omega]; exact hc80 w (fP σ w) (by omega) (by omega) (by omega) (by omega))
                  refine g_iload14 X dL_isProved_167 ?_
                  refine g_bipush X dL_isProved_169 (by decide +kernel) ?_
                  refine g_icmp_eq (tgt := 221) X (by first | exact hR162 _ _ | exact hRL146 _ _ | exact hRL49 _ _ | exact hR31 _ _ | exact hR26 _ _ | exact hR1 _ _ | exact hR0 _ _ | assumption | (unfold InR; omega)) (by first | exact hR162 _ _ | exact hRL146 _ _ | exact hRL49 _ _ | exact hR31 _ _ | exact hR26 _ _ | exact hR1 _ _ | exact hR0 _ _ | assumption | (unfold InR; omega)) dL_isProved_171 (by decide) (fun h171 => ?_) (fun h171 => ?_)
                  · skip
                    first
                    | exact J221 _ P213 (fun j a b => by rw [q213, q162]; exact hpr3 j a b)
                    | exact J221 _ P162 (fun j a b => by rw [q162]; exact hpr3 j a b)
                  · skip
                    refine g_iload14 X dL_isProved_174 ?_
                    refine g_if_lt (tgt := 225) X (by first | exact hR162 _ _ | exact hRL146 _ _ | exact hRL49 _ _ | exact hR31 _ _ | exact hR26 _ _ | exact hR1 _ _ | exact hR0 _ _ | assumption | (unfold InR; omega)) dL_isProved_176 (by decide) (fun h176 => ?_) (fun h176 => ?_)
                    · skip
                      exfalso
                      omega -- CLOSED
                    · skip
                      have d791 := P162.2 79 1 (by omega)
                      have hft : (0 ≤ fP σ w ∧ fP σ w < σ (TB 0) 1) ∧ σ (TR 0 w) (fP σ w) ≠ -1 ∧ bt (tkS σ w) (fP σ w) ≠ 1 := by
                        rcases hfst.1 with g9 | g9
                        · omega
                        · exact g9.1
                      have hzf : z162 = fP σ w := by omega
                      refine g_iload14 X dL_isProved_179 ?_
                      refine g_aload1 X dL_isProved_181 ?_
                      refine g_iconst X dL_isProved_182 ?_
                      refine g_iald X (ia_79 (by omega)) dL_isProved_183 ?_
                      refine g_icmp_ge (tgt := 225) X (by first | exact hR162 _ _ | exact hRL146 _ _ | exact hRL49 _ _ | exact hR31 _ _ | exact hR26 _ _ | exact hR1 _ _ | exact hR0 _ _ | assumption | (unfold InR; omega)) (by first | exact hR162 _ _ | exact hRL146 _ _ | exact hRL49 _ _ | exact hR31 _ _ | exact hR26 _ _ | exact hR1 _ _ | exact hR0 _ _ | assumption | (unfold InR; omega)) dL_isProved_184 (by decide) (fun h184 => ?_) (fun h184 => ?_)
                      · skip
                        exfalso
                        omega -- CLOSED
                      · skip
                        have hcw : σ162 80 (7 * w + z162) = σ (TR 0 w) (fP σ w) := by
                          rw [hzf]
                          exact (P162.2 80 _ (by omega)).trans (hc80 w (fP σ w) (by omega) (by omega) (by omega) (by omega))
                        have hcb := htc w (fP σ w) (by omega) (by omega) (by omega) (by omega)
                        refine g_aload2 X dL_isProved_187 ?_
                        refine g_bipush X dL_isProved_188 (by decide +kernel) ?_
                        refine g_iload13 X dL_isProved_190 ?_
                        refine g_imul X dL_isProved_192 ?_
                        refine g_iload14 X dL_isProved_193 ?_
                        refine g_iadd X dL_isProved_195 ?_
                        refine g_iald X (ia_80 (by omega)) dL_isProved_196 ?_
                        refine g_if_lt (tgt := 225) X (by first | exact hR162 _ _ | exact hRL146 _ _ | exact hRL49 _ _ | exact hR31 _ _ | exact hR26 _ _ | exact hR1 _ _ | exact hR0 _ _ | assumption | (unfold InR; omega)) dL_isProved_197 (by decide) (fun h197 => ?_) (fun h197 => ?_)
                        · skip
                          exfalso
                          rw [hcw] at h197
                          omega -- CLOSED
                        · skip
                          have hp2z := p2_k (k := z162) (by omega)
                          have hsh0 : 0 ≤ tk / p2 z162 := Int.ediv_nonneg (by omega) (by omega)
                          have hsh1 : tk / p2 z162 ≤ tk := Int.ediv_le_self _ (by omega)
                          have hbt9 : bt tk z162 = tk / p2 z162 % 2 := rfl
                          have hbn : bt tk z162 ≠ 1 := by rw [htk, hzf]; exact hft.2.2
                          refine g_iload10 X dL_isProved_200 ?_
                          refine g_iload14 X dL_isProved_202 ?_
                          refine g_ishr X (b_shr (by omega) (by omega)) dL_isProved_204 ?_
                          refine g_iconst X dL_isProved_205 ?_
                          refine g_iand X (b_and1 (by omega)) dL_isProved_206 ?_
                          refine g_if_ne (tgt := 225) X (by first | exact hR162 _ _ | exact hRL146 _ _ | exact hRL49 _ _ | exact hR31 _ _ | exact hR26 _ _ | exact hR1 _ _ | exact hR0 _ _ | assumption | (unfold InR; omega)) dL_isProved_207 (by decide) (fun h207 => ?_) (fun h207 => ?_)
                          · skip
                            exfalso
                            omega -- CLOSED
                          · skip
                            refine g_aload0 X dL_isProved_210 ?_
                            refine g_iload14 X dL_isProved_211 ?_
                            refine g_I1 X (k_X6_workerOf E P162.1 hz162) gL_isProved_X6_workerOf rfl (by decide +kernel) (by decide) ob_0 (Nat.le_of_ble_eq_true rfl) dL_isProved_213 (fun z213 σ213 hz213 hp213 => ?_)
                            refine g_rg (fun hR213 => ?_)
                            have P213 := P162.q hp213.2
                            have e213 := a_work hT0 P162 (x1 := z162) (by omega) hp213.1
                            rw [hzf, wOf_at hT0 (w := w) (by omega) (by omega), if_neg (by omega)] at e213
                            have q213 : ∀ j, σ213 82 j = σ162 82 j := fun j => hp213.2.1 82 j (by omega) (by omega) (by omega) (by omega) (by omega)
                            refine g_iload13 X dL_isProved_216 ?_
                            refine g_icmp_ne (tgt := 225) X (by first | exact hR213 _ _ | exact hR162 _ _ | exact hRL146 _ _ | exact hRL49 _ _ | exact hR31 _ _ | exact hR26 _ _ | exact hR1 _ _ | exact hR0 _ _ | assumption | (unfold InR; omega)) (by first | exact hR213 _ _ | exact hR162 _ _ | exact hRL146 _ _ | exact hRL49 _ _ | exact hR31 _ _ | exact hR26 _ _ | exact hR1 _ _ | exact hR0 _ _ | assumption | (unfold InR; omega)) dL_isProved_218 (by decide) (fun h218 => ?_) (fun h218 => ?_)
                            · skip
                              exact absurd e213 h218 -- CLOSED
                            · skip
                              first
                              | exact J221 _ P213 (fun j a b => by rw [q213, q162]; exact hpr3 j a b)
                              | exact J221 _ P162 (fun j a b => by rw [q162]; exact hpr3 j a b)
          refine L146 _ _ _ _ _ _ _ _ _ _ (Nat.lt_succ_self _) ?_ ?_ ?_ ?_ ?_ ?_ ?_
          · omega
          · exact hP
          · rfl
          · rfl
          · rfl
          · rfl
          · exact hpr
        · skip
          refine g_iload12 X dL_isProved_57 ?_
          refine g_if_eq (tgt := 143) X (by first | exact hRL49 _ _ | exact hR31 _ _ | exact hR26 _ _ | exact hR1 _ _ | exact hR0 _ _ | assumption | (unfold InR; omega)) dL_isProved_59 (by decide) (fun h59 => ?_) (fun h59 => ?_)
          · skip
            exact absurd h59 (by decide) -- CLOSED
          · skip
            refine g_aload11 X dL_isProved_62 ?_
            refine g_iload13 X dL_isProved_64 ?_
            refine g_aload0 X dL_isProved_66 ?_
            refine g_iload13 X dL_isProved_67 ?_
            refine g_iconst X dL_isProved_69 ?_
            refine g_I2 X (k_X6_price E hP.1 (show InR t by unfold InR; omega) InR_0) gL_isProved_X6_price rfl (by decide +kernel) (by decide) ob_0 (Nat.le_of_ble_eq_true rfl) dL_isProved_70 (fun z70 σ70 hz70 hp70 => ?_)
            refine g_rg (fun hR70 => ?_)
            have P70 := hP.q hp70.2
            have e70 := (a_price hT0 hP hp70.1).1 (by omega) rfl
            refine g_iastN X (ia_82 ha82 (by omega)) (by first | exact hR70 _ _ | exact hRL49 _ _ | exact hR31 _ _ | exact hR26 _ _ | exact hR1 _ _ | exact hR0 _ _ | assumption | (unfold InR; omega)) dL_isProved_73 ?_
            refine g_rg (fun hR73 => ?_)
            obtain ⟨σb, hsb⟩ : ∃ s, s = up σ70 82 t z70 := ⟨_, rfl⟩
            rw [← hsb]
            rw [← hsb] at hR73
            have Pb : PS σ σb := by rw [hsb]; exact P70.p t z70
            have eb : σb 82 t = lpP σ t := by rw [hsb]; unfold up; rw [if_pos ⟨rfl, rfl⟩]; exact e70
            have ebo : ∀ j, j ≠ t → σb 82 j = σa 82 j := fun j a => by rw [hsb]; unfold up; rw [if_neg (fun g => a g.2)]; exact hp70.2.1 82 j (by omega) (by omega) (by omega) (by omega) (by omega)
            have hlb := lpP_b hT0 (j := t) (by omega)
            refine g_iload7 X dL_isProved_74 ?_
            refine g_aload11 X dL_isProved_76 ?_
            refine g_iload13 X dL_isProved_78 ?_
            refine g_ialdN X (ia_82 ha82 (by omega)) dL_isProved_80 ?_
            refine g_iadd X dL_isProved_81 ?_
            refine g_istore7 X dL_isProved_82 (by decide) (by first | exact Or.inl rfl | exact Or.inr ⟨_, rfl, rfl⟩) ?_
            refine g_iload8 X dL_isProved_84 ?_
            refine g_aload0 X dL_isProved_86 ?_
            refine g_iload13 X dL_isProved_87 ?_
            refine g_iconst X dL_isProved_89 ?_
            refine g_I2 X (k_X6_price E Pb.1 (show InR t by unfold InR; omega) (show InR 1 by unfold InR; omega)) gL_isProved_X6_price rfl (by decide +kernel) (by decide) ob_0 (Nat.le_of_ble_eq_true rfl) dL_isProved_90 (fun z90 σ90 hz90 hp90 => ?_)
            refine g_rg (fun hR90 => ?_)
            have P90 := Pb.q hp90.2
            have e90 := (a_price hT0 Pb hp90.1).2.1 (by omega) rfl
            have q90 : ∀ j, σ90 82 j = σb 82 j := fun j => hp90.2.1 82 j (by omega) (by omega) (by omega) (by omega) (by omega)
            refine g_iadd X dL_isProved_93 ?_
            refine g_istore8 X dL_isProved_94 (by decide) (by first | exact Or.inl rfl | exact Or.inr ⟨_, rfl, rfl⟩) ?_
            refine g_aload11 X dL_isProved_96 ?_
            refine g_iload13 X dL_isProved_98 ?_
            refine g_ialdN X (ia_82 ha82 (by omega)) dL_isProved_100 ?_
            refine g_if_lt (tgt := 134) X (by first | exact hR90 _ _ | exact hR73 _ _ | exact hR70 _ _ | exact hRL49 _ _ | exact hR31 _ _ | exact hR26 _ _ | exact hR1 _ _ | exact hR0 _ _ | assumption | (unfold InR; omega)) dL_isProved_101 (by decide) (fun h101 => ?_) (fun h101 => ?_)
            · skip
              exfalso
              rw [q90, eb] at h101
              omega -- CLOSED
            · skip
              refine g_aload0 X dL_isProved_104 ?_
              refine g_iload13 X dL_isProved_105 ?_
              refine g_iconst X dL_isProved_107 ?_
              refine g_I2 X (k_X6_price E P90.1 (show InR t by unfold InR; omega) (show InR 1 by unfold InR; omega)) gL_isProved_X6_price rfl (by decide +kernel) (by decide) ob_0 (Nat.le_of_ble_eq_true rfl) dL_isProved_108 (fun z108 σ108 hz108 hp108 => ?_)
              refine g_rg (fun hR108 => ?_)
              have P108 := P90.q hp108.2
              have e108 := (a_price hT0 P90 hp108.1).2.1 (by omega) rfl
              have q108 : ∀ j, σ108 82 j = σ90 82 j := fun j => hp108.2.1 82 j (by omega) (by omega) (by omega) (by omega) (by omega)
              refine g_aload11 X dL_isProved_111 ?_
              refine g_iload13 X dL_isProved_113 ?_
              refine g_ialdN X (ia_82 ha82 (by omega)) dL_isProved_115 ?_
              refine g_icmp_lt (tgt := 134) X (by first | exact hR108 _ _ | exact hR90 _ _ | exact hR73 _ _ | exact hR70 _ _ | exact hRL49 _ _ | exact hR31 _ _ | exact hR26 _ _ | exact hR1 _ _ | exact hR0 _ _ | assumption | (unfold InR; omega)) (by first | exact hR108 _ _ | exact hR90 _ _ | exact hR73 _ _ | exact hR70 _ _ | exact hRL49 _ _ | exact hR31 _ _ | exact hR26 _ _ | exact hR1 _ _ | exact hR0 _ _ | assumption | (unfold InR; omega)) dL_isProved_116 (by decide) (fun h116 => ?_) (fun h116 => ?_)
              · skip
                exfalso
                rw [q108, q90, eb, e108] at h116
                have h9 := d_great hT0 (j := t) (by omega)
                omega -- CLOSED
              · skip
                refine g_aload0 X dL_isProved_119 ?_
                refine g_iload13 X dL_isProved_120 ?_
                refine g_iconst X dL_isProved_122 ?_
                refine g_I2 X (k_X6_price E P108.1 (show InR t by unfold InR; omega) (show InR 2 by unfold InR; omega)) gL_isProved_X6_price rfl (by decide +kernel) (by decide) ob_0 (Nat.le_of_ble_eq_true rfl) dL_isProved_123 (fun z123 σ123 hz123 hp123 => ?_)
                refine g_rg (fun hR123 => ?_)
                have P123 := P108.q hp123.2
                have e123 := (a_price hT0 P108 hp123.1).2.2 (by omega) rfl
                have q123 : ∀ j, σ123 82 j = σ108 82 j := fun j => hp123.2.1 82 j (by omega) (by omega) (by omega) (by omega) (by omega)
                refine g_iconst X dL_isProved_126 ?_
                refine g_icmp_ne (tgt := 134) X (by first | exact hR123 _ _ | exact hR108 _ _ | exact hR90 _ _ | exact hR73 _ _ | exact hR70 _ _ | exact hRL49 _ _ | exact hR31 _ _ | exact hR26 _ _ | exact hR1 _ _ | exact hR0 _ _ | assumption | (unfold InR; omega)) (by first | exact hR123 _ _ | exact hR108 _ _ | exact hR90 _ _ | exact hR73 _ _ | exact hR70 _ _ | exact hRL49 _ _ | exact hR31 _ _ | exact hR26 _ _ | exact hR1 _ _ | exact hR0 _ _ | assumption | (unfold InR; omega)) dL_isProved_127 (by decide) (fun h127 => ?_) (fun h127 => ?_)
                · skip
                  exact absurd e123 h127 -- CLOSED
                · skip
                  refine g_iconst X dL_isProved_130 ?_
                  refine g_goto (tgt := 135) X dL_isProved_131 (by decide) ?_
                  refine g_istore12 X dL_isProved_135 (by decide) (by first | exact Or.inl rfl | exact Or.inr ⟨_, rfl, rfl⟩) ?_
                  refine g_iinc13 X dL_isProved_137 (by decide) (by first | exact Or.inl rfl | exact Or.inr ⟨_, rfl, rfl⟩) ?_
                  refine g_goto (tgt := 49) X dL_isProved_140 (by decide) ?_
                  refine ih49 _ _ _ _ (by omega) ?_ ?_ ?_ ?_ ?_
                  · omega
                  · exact P123
                  · rw [eb, hpp]; exact (pLp_s ht.1).symm
                  · rw [e90, hgg]; exact (sG_s ht.1).symm
                  · intro j a b
                    by_cases g9 : j = t
                    · rw [g9, q123, q108, q90, eb]
                    · rw [q123, q108, q90, ebo j g9]; exact hpr j a (by omega)
    refine L49 _ _ _ _ _ (Nat.lt_succ_self _) ?_ ?_ ?_ ?_ ?_
    · omega
    · exact P31
    · rfl
    · rfl
    · intro j a b; omega

