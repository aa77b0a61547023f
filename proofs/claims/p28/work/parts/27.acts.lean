/-! THE LAW'S OWN METHODS: acts -/
theorem c3_v (a b : Int) : (c3 a b = -1 ∧ a < b) ∨ (c3 a b = 0 ∧ a = b) ∨ (c3 a b = 1 ∧ b < a) := by
  unfold c3
  by_cases h1 : a < b
  · rw [if_pos h1]; omega
  · rw [if_neg h1]
    by_cases h2 : a = b
    · rw [if_pos h2]; omega
    · rw [if_neg h2]; omega
/-- a worker's costs are multiplied, of the pairs those below t -/
def lwM (σ : St) (v f t : Int) : St := fun q k => if q = 81 ∧ k = v then σ 81 v * f else if q = 80 ∧ 7 * v ≤ k ∧ k < 7 * v + t then (if σ 80 k < 0 then -1 else σ 80 k * f) else σ q k
theorem lwM_0 (σ : St) (v f : Int) : up σ 81 v (σ 81 v * f) = lwM σ v f 0 := by
  funext q k
  unfold up lwM
  by_cases h : q = 81 ∧ k = v
  · rw [if_pos h, if_pos h]
  · rw [if_neg h, if_neg h, if_neg (by omega)]
theorem lwM_s (σ : St) (v f t : Int) (ht : 0 ≤ t) : up (lwM σ v f t) 80 (7 * v + t) (if σ 80 (7 * v + t) < 0 then -1 else σ 80 (7 * v + t) * f) = lwM σ v f (t + 1) := by
  funext q k
  unfold up lwM
  by_cases h : q = 80 ∧ k = 7 * v + t
  · rw [if_pos h, if_neg (show ¬ (q = 81 ∧ k = v) by omega), if_pos (show q = 80 ∧ 7 * v ≤ k ∧ k < 7 * v + (t + 1) by omega), h.2]
  · rw [if_neg h]
    by_cases h2 : q = 81 ∧ k = v
    · rw [if_pos h2, if_pos h2]
    · rw [if_neg h2, if_neg h2]
      by_cases h3 : q = 80 ∧ 7 * v ≤ k ∧ k < 7 * v + t
      · rw [if_pos h3, if_pos (show q = 80 ∧ 7 * v ≤ k ∧ k < 7 * v + (t + 1) by omega)]
      · rw [if_neg h3, if_neg (show ¬ (q = 80 ∧ 7 * v ≤ k ∧ k < 7 * v + (t + 1)) by omega)]
theorem gC_cg {σ σ' : St} (e : ∀ q k, q < 79 → σ' q k = σ q k) {v i : Int} (hv : 0 ≤ v ∧ v < 7) : gC σ' 0 v i = gC σ 0 v i := by
  unfold gC
  rw [e (TI 0) v (by unfold TI; omega), show (fun a j => max a (σ' (TR 0 v) j)) = (fun a j => max a (σ (TR 0 v) j)) from funext fun a => funext fun j => by rw [e _ _ (by unfold TR; omega)]]
/-- a pair that is barred makes no plan cheaper -/
theorem bar_up {σ σ2 : St} (hC : CI σ2) {v t : Int} (hv : 0 ≤ v ∧ v < 7) (ht : 0 ≤ t ∧ t < 7) : TOK (up (kp σ2) (TR 0 v) t (-1)) 0 ∧ RW σ2 (AW σ2) 0 0 ≤ RW (up (kp σ2) (TR 0 v) t (-1)) (AW (up (kp σ2) (TR 0 v) t (-1))) 0 0 := by
  have kt := kp_T0 hC.2.1
  have hT2 := hC.1 0 (by omega) (by omega)
  have hTk := hC.kept.1 0 (by omega) (by omega)
  have hTu : TOK (up (kp σ2) (TR 0 v) t (-1)) 0 := by
    refine ⟨by rw [o_up (by unfold TB TR; omega)]; exact hTk.1, by rw [o_up (by unfold TB TR; omega)]; exact hTk.2.1, fun w a b => by rw [o_up (by unfold TI TR; omega)]; exact hTk.2.2.1 w a b, fun w i a b d e => ?_⟩
    unfold up
    by_cases h : TR 0 w = TR 0 v ∧ i = t
    · rw [if_pos h]; omega
    · rw [if_neg h]; exact hTk.2.2.2 w i a b d e
  refine ⟨hTu, RW_mono hT2 hTu (by rw [o_up (by unfold TB TR; omega)]; exact kt.1) (by rw [o_up (by unfold TB TR; omega)]; exact kt.2.1) (fun w a b => by rw [o_up (by unfold TI TR; omega)]; exact kt.2.2.1 w) (fun w j a b c d e => ?_)⟩
  unfold up at e ⊢
  by_cases h : TR 0 w = TR 0 v ∧ j = t
  · rw [if_pos h] at e; omega
  · rw [if_neg h, kt.2.2.2 w j a (by have := hT2.1; omega)]
theorem pair_tok {σ2 : St} (hC : CI σ2) {v t x : Int} (hv : 0 ≤ v ∧ v < 7) (ht : 0 ≤ t ∧ t < 7) (hx : -1 ≤ x ∧ x ≤ 9999) : TOK (up (kp σ2) (TR 0 v) t x) 0 := by
  have hTk := hC.kept.1 0 (by omega) (by omega)
  refine ⟨by rw [o_up (by unfold TB TR; omega)]; exact hTk.1, by rw [o_up (by unfold TB TR; omega)]; exact hTk.2.1, fun w a b => by rw [o_up (by unfold TI TR; omega)]; exact hTk.2.2.1 w a b, fun w i a b d e => ?_⟩
  unfold up
  by_cases h : TR 0 w = TR 0 v ∧ i = t
  · rw [if_pos h]; omega
  · rw [if_neg h]; exact hTk.2.2.2 w i a b d e
set_option maxHeartbeats 4000000 in
set_option maxRecDepth 100000 in
theorem k_L_acts (E0 : EV) {ad : Int → Nat} {σ : St} {z0 : Int} (hL : LW σ) : MGE E0 yL_acts wsL_acts 8 186 ad σ [.ref (ad 0), .ref (ad 79), .ref (ad 80), .ref (ad 81), .int (iI z0)] (PI (fun z σ' => z = 1 ∧ LW σ')) := by
  refine MGE.of (cc := cL_acts) (maxL := 12) (ret := (some .boolean)) (own := RL) [some (.ref (ad 0)), some (.ref (ad 79)), some (.ref (ad 80)), some (.ref (ad 81)), some (.int (iI z0)), none, none, none, none, none, none, none] (by decide +kernel) rfl rfl (Nat.le_of_ble_eq_true rfl) rfl rfl (fun E X hr => ?_)
  refine g_rg (fun hR0 => ?_)
  obtain ⟨hC, h80, h5, h790, h791, h81, hc80⟩ := id hL
  have hT0 := hC.1 0 (by omega) (by omega)
  obtain ⟨hm, hn, hti, htc⟩ := id hT0
  refine g_iload4 X dL_acts_0 ?_
  refine g_iconst X dL_acts_2 ?_
  refine g_ishr X (iI_of _).symm dL_acts_3 ?_
  refine g_ldc X (z := 10000000) (by decide +kernel) rfl dL_acts_4 ?_
  refine g_LI2 X (k_L_low E (by omega)) gL_acts_L_low rfl (by decide +kernel) (by decide) (Nat.le_of_ble_eq_true rfl) dL_acts_6 (fun z6 σ6 hz6 hp6 => ?_)
  refine g_rg (fun hR6 => ?_)
  obtain ⟨b6, s6⟩ := hp6
  rw [s6]
  refine g_istore5 X dL_acts_9 (by decide) (by first | exact Or.inl rfl | exact Or.inr ⟨_, rfl, rfl⟩) ?_
  refine g_iload4 X dL_acts_11 ?_
  refine g_bipush X dL_acts_13 (by decide +kernel) ?_
  refine g_LI2 X (k_L_low E (by omega)) gL_acts_L_low rfl (by decide +kernel) (by decide) (Nat.le_of_ble_eq_true rfl) dL_acts_15 (fun z15 σ15 hz15 hp15 => ?_)
  refine g_rg (fun hR15 => ?_)
  obtain ⟨b15, s15⟩ := hp15
  rw [s15]
  refine g_istore6 X dL_acts_18 (by decide) (by first | exact Or.inl rfl | exact Or.inr ⟨_, rfl, rfl⟩) ?_
  refine g_iload6 X dL_acts_20 ?_
  refine g_iconst X dL_acts_22 ?_
  refine g_icmp_ge (tgt := 50) X (by first | exact hR15 _ _ | exact hR6 _ _ | exact hR0 _ _ | assumption | (unfold InR; omega)) (by first | exact hR15 _ _ | exact hR6 _ _ | exact hR0 _ _ | assumption | (unfold InR; omega)) dL_acts_23 (by decide) (fun h23 => ?_) (fun h23 => ?_)
  · skip
    refine g_iload6 X dL_acts_50 ?_
    refine g_bipush X dL_acts_52 (by decide +kernel) ?_
    refine g_icmp_lt (tgt := 63) X (by first | exact hR15 _ _ | exact hR6 _ _ | exact hR0 _ _ | assumption | (unfold InR; omega)) (by first | exact hR15 _ _ | exact hR6 _ _ | exact hR0 _ _ | assumption | (unfold InR; omega)) dL_acts_54 (by decide) (fun h54 => ?_) (fun h54 => ?_)
    · skip
      refine g_iload6 X dL_acts_63 ?_
      refine g_bipush X dL_acts_65 (by decide +kernel) ?_
      refine g_icmp_ge (tgt := 82) X (by first | exact hR15 _ _ | exact hR6 _ _ | exact hR0 _ _ | assumption | (unfold InR; omega)) (by first | exact hR15 _ _ | exact hR6 _ _ | exact hR0 _ _ | assumption | (unfold InR; omega)) dL_acts_67 (by decide) (fun h67 => ?_) (fun h67 => ?_)
      · skip
        refine g_aload0 X dL_acts_82 ?_
        refine g_aload1 X dL_acts_83 ?_
        refine g_aload2 X dL_acts_84 ?_
        refine g_aload3 X dL_acts_85 ?_
        refine g_iload6 X dL_acts_86 ?_
        refine g_iconst X dL_acts_88 ?_
        refine g_irem X (by unfold InR; omega) (by unfold InR; omega) (by omega) (by omega) dL_acts_89 ?_
        refine g_iload5 X dL_acts_90 ?_
        refine g_LI6 X (k_L_tables E hL (by omega) (by omega)) gL_acts_L_tables rfl (by decide +kernel) (by decide) (Nat.le_of_ble_eq_true rfl) dL_acts_92 (fun z92 σ92 hz92 hp92 => ?_)
        refine g_rg (fun hR92 => ?_)
        exact g_zret X hr (by first | exact Or.inl rfl | exact Or.inr rfl | omega) (by first | exact hp76 | exact hp92) dL_acts_95
      · skip
        refine g_aload0 X dL_acts_70 ?_
        refine g_aload1 X dL_acts_71 ?_
        refine g_aload2 X dL_acts_72 ?_
        refine g_aload3 X dL_acts_73 ?_
        refine g_iload5 X dL_acts_74 ?_
        refine g_LI5 X (k_L_reads E hL (by omega)) gL_acts_L_reads rfl (by decide +kernel) (by decide) (Nat.le_of_ble_eq_true rfl) dL_acts_76 (fun z76 σ76 hz76 hp76 => ?_)
        refine g_rg (fun hR76 => ?_)
        refine g_goto (tgt := 95) X dL_acts_79 (by decide) ?_
        exact g_zret X hr (by first | exact Or.inl rfl | exact Or.inr rfl | omega) (by first | exact hp76 | exact hp92) dL_acts_95
    · skip
      refine g_aload1 X dL_acts_57 ?_
      refine g_iconst X dL_acts_58 ?_
      refine g_iald X (ia_79 (by omega)) dL_acts_59 ?_
      refine g_if_ne (tgt := 96) X (by first | exact hR15 _ _ | exact hR6 _ _ | exact hR0 _ _ | assumption | (unfold InR; omega)) dL_acts_60 (by decide) (fun h60 => ?_) (fun h60 => ?_)
      · skip
        refine g_iload5 X dL_acts_96 ?_
        refine g_aload1 X dL_acts_98 ?_
        refine g_iconst X dL_acts_99 ?_
        refine g_iald X (ia_79 (by omega)) dL_acts_100 ?_
        refine g_irem X (by unfold InR; omega) (by unfold InR; omega) (by omega) (by omega) dL_acts_101 ?_
        have hv0 : 0 ≤ z6 % σ 79 0 := Int.emod_nonneg _ (by omega)
        have hv1 : z6 % σ 79 0 < σ 79 0 := Int.emod_lt_of_pos _ (by omega)
        obtain ⟨v, hv⟩ : ∃ v, v = z6 % σ 79 0 := ⟨_, rfl⟩
        rw [← hv] at hv0 hv1 ⊢
        have hdv := h81 v (by omega) (by omega)
        have hdb := hti v (by omega) (by omega)
        refine g_istore7 X dL_acts_102 (by decide) (by first | exact Or.inl rfl | exact Or.inr ⟨_, rfl, rfl⟩) ?_
        refine g_iload6 X dL_acts_104 ?_
        refine g_bipush X dL_acts_106 (by decide +kernel) ?_
        refine g_icmp_ne (tgt := 321) X (by first | exact hR15 _ _ | exact hR6 _ _ | exact hR0 _ _ | assumption | (unfold InR; omega)) (by first | exact hR15 _ _ | exact hR6 _ _ | exact hR0 _ _ | assumption | (unfold InR; omega)) dL_acts_108 (by decide) (fun h108 => ?_) (fun h108 => ?_)
        · skip
          refine g_iload6 X dL_acts_321 ?_
          refine g_bipush X dL_acts_323 (by decide +kernel) ?_
          refine g_icmp_lt (tgt := 334) X (by first | exact hR15 _ _ | exact hR6 _ _ | exact hR0 _ _ | assumption | (unfold InR; omega)) (by first | exact hR15 _ _ | exact hR6 _ _ | exact hR0 _ _ | assumption | (unfold InR; omega)) dL_acts_325 (by decide) (fun h325 => ?_) (fun h325 => ?_)
          · skip
            have hy7 : 0 ≤ z6 / 7 ∧ z6 / 7 ≤ z6 := by omega
            refine g_aload3 X dL_acts_334 ?_
            refine g_iload7 X dL_acts_335 ?_
            refine g_iald X (ia_81 (by omega)) dL_acts_337 ?_
            refine g_istore8 X dL_acts_338 (by decide) (by first | exact Or.inl rfl | exact Or.inr ⟨_, rfl, rfl⟩) ?_
            refine g_aload3 X dL_acts_340 ?_
            refine g_iload7 X dL_acts_341 ?_
            refine g_iload5 X dL_acts_343 ?_
            refine g_bipush X dL_acts_345 (by decide +kernel) ?_
            refine g_idiv X (by first | omega | (unfold InR; omega)) (by unfold InR; omega) (by omega) (by omega) dL_acts_347 ?_
            have J363 : ∀ (f : Int), (1 ≤ f ∧ f ≤ 10000) → WG E ad 12 σ 363 [some (.ref (ad 0)), some (.ref (ad 79)), some (.ref (ad 80)), some (.ref (ad 81)), some (.int (iI z0)), some (.int (iI z6)), some (.int (iI z15)), some (.int (iI v)), some (.int (iI (σ 81 v))), none, none, none] [.int (iI f), .int (iI (z6 / 7)), .int (iI v), .ref (ad 81)] := by
              intro f hf
              refine g_irem X (by unfold InR; omega) (by unfold InR; omega) (by omega) (by omega) dL_acts_363 ?_
              have hx0 : 0 ≤ z6 / 7 % f := Int.emod_nonneg _ (by omega)
              have hx1 : z6 / 7 % f < f := Int.emod_lt_of_pos _ (by omega)
              obtain ⟨x, hx⟩ : ∃ x, x = z6 / 7 % f := ⟨_, rfl⟩
              rw [← hx] at hx0 hx1 ⊢
              refine g_iast X (ia_81 (by omega)) (by first | exact hR15 _ _ | exact hR6 _ _ | exact hR0 _ _ | assumption | (unfold InR; omega)) dL_acts_364 ?_
              refine g_rg (fun hR364 => ?_)
              obtain ⟨σ2, hs2⟩ : ∃ s, s = up σ 81 v x := ⟨_, rfl⟩
              rw [← hs2]
              rw [← hs2] at hR364
              have e2 : σ2 81 v = x := by rw [hs2]; unfold up; rw [if_pos ⟨rfl, rfl⟩]
              have f2 : ∀ q k, ¬ (q = 81 ∧ k = v) → σ2 q k = σ q k := fun q k a => by rw [hs2]; unfold up; rw [if_neg a]
              have hC2 := hC.hi (fun q k a => f2 q k (by omega))
              have hm2 : σ2 (TB 0) 0 = σ (TB 0) 0 := f2 _ _ (by unfold TB; omega)
              have hi2 : σ2 (TI 0) v = σ (TI 0) v := f2 _ _ (by unfold TI; omega)
              have hL2 := L_idle (σ1 := σ2) (v := v) (x := x) hL (by omega) (by omega) f2 e2
              refine g_aload0 X dL_acts_365 ?_
              refine g_iload7 X dL_acts_366 ?_
              refine g_aload3 X dL_acts_368 ?_
              refine g_iload7 X dL_acts_369 ?_
              refine g_iald X (ia_81 (by omega)) dL_acts_371 ?_
              rw [e2]
              refine g_X2 X (k_X6_idle E hC2 (show InR v by unfold InR; omega) (show InR x by unfold InR; omega)) gL_acts_X6_idle rfl (by decide +kernel) (by decide) ob_0 (Nat.le_of_ble_eq_true rfl) dL_acts_372 (fun z372 σ372 hz372 hp372 => ?_)
              refine g_rg (fun hR372 => ?_)
              rw [if_pos (show (0 ≤ v ∧ v < σ2 (TB 0) 0) ∧ 0 ≤ x ∧ x ≤ 9999 by omega), if_pos (show (0 ≤ v ∧ v < σ2 (TB 0) 0) ∧ 0 ≤ x ∧ x ≤ 9999 by omega)] at hp372
              obtain ⟨e372, s372⟩ := hp372
              rw [← s372] at hL2
              refine g_iload8 X dL_acts_375 ?_
              refine g_icmp_ne (tgt := 384) X (by first | exact hR372 _ _ | exact hR364 _ _ | exact hR15 _ _ | exact hR6 _ _ | exact hR0 _ _ | assumption | (unfold InR; omega)) (by first | exact hR372 _ _ | exact hR364 _ _ | exact hR15 _ _ | exact hR6 _ _ | exact hR0 _ _ | assumption | (unfold InR; omega)) dL_acts_377 (by decide) (fun h377 => ?_) (fun h377 => ?_)
              · skip
                exfalso
                omega -- CLOSED
              · skip
                refine g_iconst X dL_acts_380 ?_
                refine g_goto (tgt := 385) X dL_acts_381 (by decide) ?_
                exact g_zret X hr (by first | exact Or.inl rfl | exact Or.inr rfl | omega) ⟨rfl, hL2⟩ dL_acts_385
            refine g_iload5 X dL_acts_348 ?_
            refine g_iconst X dL_acts_350 ?_
            refine g_irem X (by first | omega | (unfold InR; omega)) (by unfold InR; omega) (by omega) (by omega) dL_acts_351 ?_
            refine g_if_ne (tgt := 361) X (by first | exact hR15 _ _ | exact hR6 _ _ | exact hR0 _ _ | assumption | (unfold InR; omega)) dL_acts_352 (by decide) (fun h352 => ?_) (fun h352 => ?_)
            · skip
              refine g_bipush X dL_acts_361 (by decide +kernel) ?_
              exact J363 _ (by omega)
            · skip
              refine g_sipush X dL_acts_355 (by decide +kernel) ?_
              refine g_goto (tgt := 363) X dL_acts_358 (by decide) ?_
              exact J363 _ (by omega)
          · skip
            refine g_aload1 X dL_acts_328 ?_
            refine g_iconst X dL_acts_329 ?_
            refine g_iald X (ia_79 (by omega)) dL_acts_330 ?_
            refine g_if_ne (tgt := 386) X (by first | exact hR15 _ _ | exact hR6 _ _ | exact hR0 _ _ | assumption | (unfold InR; omega)) dL_acts_331 (by decide) (fun h331 => ?_) (fun h331 => ?_)
            · skip
              have hy7 : 0 ≤ z6 / 7 ∧ z6 / 7 ≤ z6 := by omega
              refine g_iload5 X dL_acts_386 ?_
              refine g_bipush X dL_acts_388 (by decide +kernel) ?_
              refine g_idiv X (by first | omega | (unfold InR; omega)) (by unfold InR; omega) (by omega) (by omega) dL_acts_390 ?_
              refine g_aload1 X dL_acts_391 ?_
              refine g_iconst X dL_acts_392 ?_
              refine g_iald X (ia_79 (by omega)) dL_acts_393 ?_
              refine g_irem X (by unfold InR; omega) (by unfold InR; omega) (by omega) (by omega) dL_acts_394 ?_
              have ht0 : 0 ≤ z6 / 7 % σ 79 1 := Int.emod_nonneg _ (by omega)
              have ht1 : z6 / 7 % σ 79 1 < σ 79 1 := Int.emod_lt_of_pos _ (by omega)
              obtain ⟨t, ht⟩ : ∃ t, t = z6 / 7 % σ 79 1 := ⟨_, rfl⟩
              rw [← ht] at ht0 ht1 ⊢
              refine g_istore8 X dL_acts_395 (by decide) (by first | exact Or.inl rfl | exact Or.inr ⟨_, rfl, rfl⟩) ?_
              refine g_aload0 X dL_acts_397 ?_
              refine g_I0 X (k_X6_total E hC) gL_acts_X6_total rfl (by decide +kernel) (by decide) ob_0 (Nat.le_of_ble_eq_true rfl) dL_acts_398 (fun z398 σ398 hz398 hp398 => ?_)
              refine g_rg (fun hR398 => ?_)
              have hLt := hL.q hp398.2
              have eT : ∀ q k, 11 ≤ q → q ≠ 79 + 0 * q ∨ True → (q ≤ 20 ∨ 79 ≤ q) → σ398 q k = σ q k := fun q k a _ b => hp398.2.1 q k (by omega) (by omega) (by omega) (by omega) (by omega)
              have m398 : σ398 (TB 0) 0 = σ (TB 0) 0 := eT _ _ (by unfold TB; omega) (Or.inr trivial) (by unfold TB; omega)
              have n398 : σ398 (TB 0) 1 = σ (TB 0) 1 := eT _ _ (by unfold TB; omega) (Or.inr trivial) (by unfold TB; omega)
              obtain ⟨tC, t80, t5, t790, t791, t81, tc80⟩ := id hLt
              have hce2 := tc80 v t (by omega) (by omega) (by omega) (by omega)
              have hcb2 := (tC.1 0 (by omega) (by omega)).2.2.2 v t (by omega) (by omega) (by omega) (by omega)
              have htot := RW_q hT0 hp398.2
              have hzb := RW_b hT0 (AW σ) 0 0 (by omega)
              refine g_istore9 X dL_acts_401 (by decide) (by first | exact Or.inl rfl | exact Or.inr ⟨_, rfl, rfl⟩) ?_
              refine g_iload6 X dL_acts_403 ?_
              refine g_bipush X dL_acts_405 (by decide +kernel) ?_
              refine g_icmp_ge (tgt := 486) X (by first | exact hR398 _ _ | exact hR15 _ _ | exact hR6 _ _ | exact hR0 _ _ | assumption | (unfold InR; omega)) (by first | exact hR398 _ _ | exact hR15 _ _ | exact hR6 _ _ | exact hR0 _ _ | assumption | (unfold InR; omega)) dL_acts_407 (by decide) (fun h407 => ?_) (fun h407 => ?_)
              · skip
                have hy49 : 0 ≤ z6 / 49 ∧ z6 / 49 ≤ z6 := by omega
                refine g_iload5 X dL_acts_486 ?_
                refine g_bipush X dL_acts_488 (by decide +kernel) ?_
                refine g_idiv X (by first | omega | (unfold InR; omega)) (by unfold InR; omega) (by omega) (by omega) dL_acts_490 ?_
                have J506 : ∀ (f : Int), (1 ≤ f ∧ f ≤ 10000) → WG E ad 12 σ398 506 [some (.ref (ad 0)), some (.ref (ad 79)), some (.ref (ad 80)), some (.ref (ad 81)), some (.int (iI z0)), some (.int (iI z6)), some (.int (iI z15)), some (.int (iI v)), some (.int (iI t)), some (.int (iI z398)), none, none] [.int (iI f), .int (iI (z6 / 49))] := by
                  intro f hf
                  refine g_irem X (by unfold InR; omega) (by unfold InR; omega) (by omega) (by omega) dL_acts_506 ?_
                  have hx0 : 0 ≤ z6 / 49 % f := Int.emod_nonneg _ (by omega)
                  have hx1 : z6 / 49 % f < f := Int.emod_lt_of_pos _ (by omega)
                  obtain ⟨x, hx⟩ : ∃ x, x = z6 / 49 % f := ⟨_, rfl⟩
                  rw [← hx] at hx0 hx1 ⊢
                  refine g_istore10 X dL_acts_507 (by decide) (by first | exact Or.inl rfl | exact Or.inr ⟨_, rfl, rfl⟩) ?_
                  refine g_aload2 X dL_acts_509 ?_
                  refine g_bipush X dL_acts_510 (by decide +kernel) ?_
                  refine g_iload7 X dL_acts_512 ?_
                  refine g_imul X dL_acts_514 ?_
                  refine g_iload8 X dL_acts_515 ?_
                  refine g_iadd X dL_acts_517 ?_
                  refine g_iload10 X dL_acts_518 ?_
                  refine g_iast X (ia_80 (by omega)) (by first | exact hR398 _ _ | exact hR15 _ _ | exact hR6 _ _ | exact hR0 _ _ | assumption | (unfold InR; omega)) dL_acts_520 ?_
                  refine g_rg (fun hR520 => ?_)
                  obtain ⟨σ2, hs2⟩ : ∃ s, s = up σ398 80 (7 * v + t) (x) := ⟨_, rfl⟩
                  rw [← hs2]
                  rw [← hs2] at hR520
                  have e2 : σ2 80 (7 * v + t) = x := by rw [hs2]; unfold up; rw [if_pos ⟨rfl, rfl⟩]
                  have f2 : ∀ q k, ¬ (q = 80 ∧ k = 7 * v + t) → σ2 q k = σ398 q k := fun q k a => by rw [hs2]; unfold up; rw [if_neg a]
                  have hC2 := tC.hi (fun q k a => f2 q k (by omega))
                  have hT2 := hC2.1 0 (by omega) (by omega)
                  have hm2 : σ2 (TB 0) 0 = σ398 (TB 0) 0 := f2 _ _ (by unfold TB; omega)
                  have hn2 : σ2 (TB 0) 1 = σ398 (TB 0) 1 := f2 _ _ (by unfold TB; omega)
                  have hL2 := L_pair (σ1 := σ2) (v := v) (i := t) (x := x) hLt (by omega) (by omega) (by omega) f2 e2
                  have htk := pair_tok hC2 (v := v) (t := t) (x := x) (by omega) (by omega) (by omega)
                  have htot2 : RW σ2 (AW σ2) 0 0 = RW σ (AW σ) 0 0 := (RW_t (tC.1 0 (by omega) (by omega)) (fun q k a b => f2 q k (by omega))).trans htot
                  refine g_aload0 X dL_acts_521 ?_
                  refine g_iload7 X dL_acts_522 ?_
                  refine g_iload8 X dL_acts_524 ?_
                  refine g_iload10 X dL_acts_526 ?_
                  refine g_I3 X (k_X6_cost E hC2 (show InR v by unfold InR; omega) (show InR t by unfold InR; omega) (show InR x by unfold InR; omega)) gL_acts_X6_cost rfl (by decide +kernel) (by decide) ob_0 (Nat.le_of_ble_eq_true rfl) dL_acts_528 (fun z528 σ528 hz528 hp528 => ?_)
                  refine g_rg (fun hR528 => ?_)
                  rw [if_pos (show (0 ≤ v ∧ v < σ2 (TB 0) 0) ∧ (0 ≤ t ∧ t < σ2 (TB 0) 1) ∧ 0 ≤ x ∧ x ≤ 9999 by omega), if_pos (show (0 ≤ v ∧ v < σ2 (TB 0) 0) ∧ (0 ≤ t ∧ t < σ2 (TB 0) 1) ∧ 0 ≤ x ∧ x ≤ 9999 by omega)] at hp528
                  have hL3 := hL2.q hp528.2
                  have htot3 := RW_q htk hp528.2
                  have hzb3 := RW_b htk (AW (up (kp σ2) (TR 0 v) t x)) 0 0 (by omega)
                  refine g_istore11 X dL_acts_531 (by decide) (by first | exact Or.inl rfl | exact Or.inr ⟨_, rfl, rfl⟩) ?_
                  refine g_iload11 X dL_acts_533 ?_
                  refine g_ldc X (z := 100000) (by decide +kernel) rfl dL_acts_535 ?_
                  refine g_aload0 X dL_acts_537 ?_
                  refine g_I0 X (k_X6_total E hL3.1) gL_acts_X6_total rfl (by decide +kernel) (by decide) ob_0 (Nat.le_of_ble_eq_true rfl) dL_acts_538 (fun z538 σ538 hz538 hp538 => ?_)
                  refine g_rg (fun hR538 => ?_)
                  refine g_iadd X dL_acts_541 ?_
                  refine g_iload9 X dL_acts_542 ?_
                  refine g_isub X dL_acts_544 ?_
                  refine g_icmp_ne (tgt := 552) X (by first | exact hR538 _ _ | exact hR528 _ _ | exact hR520 _ _ | exact hR398 _ _ | exact hR15 _ _ | exact hR6 _ _ | exact hR0 _ _ | assumption | (unfold InR; omega)) (by first | exact hR538 _ _ | exact hR528 _ _ | exact hR520 _ _ | exact hR398 _ _ | exact hR15 _ _ | exact hR6 _ _ | exact hR0 _ _ | assumption | (unfold InR; omega)) dL_acts_545 (by decide) (fun h545 => ?_) (fun h545 => ?_)
                  · skip
                    exfalso
                    omega -- CLOSED
                  · skip
                    refine g_iconst X dL_acts_548 ?_
                    refine g_goto (tgt := 553) X dL_acts_549 (by decide) ?_
                    exact g_zret X hr (by first | exact Or.inl rfl | exact Or.inr rfl | omega) ⟨rfl, hL3.q hp538.2⟩ dL_acts_553
                refine g_iload5 X dL_acts_491 ?_
                refine g_iconst X dL_acts_493 ?_
                refine g_irem X (by first | omega | (unfold InR; omega)) (by unfold InR; omega) (by omega) (by omega) dL_acts_494 ?_
                refine g_if_ne (tgt := 504) X (by first | exact hR398 _ _ | exact hR15 _ _ | exact hR6 _ _ | exact hR0 _ _ | assumption | (unfold InR; omega)) dL_acts_495 (by decide) (fun h495 => ?_) (fun h495 => ?_)
                · skip
                  refine g_bipush X dL_acts_504 (by decide +kernel) ?_
                  exact J506 _ (by omega)
                · skip
                  refine g_sipush X dL_acts_498 (by decide +kernel) ?_
                  refine g_goto (tgt := 506) X dL_acts_501 (by decide) ?_
                  exact J506 _ (by omega)
              · skip
                refine g_aload2 X dL_acts_410 ?_
                refine g_bipush X dL_acts_411 (by decide +kernel) ?_
                refine g_iload7 X dL_acts_413 ?_
                refine g_imul X dL_acts_415 ?_
                refine g_iload8 X dL_acts_416 ?_
                refine g_iadd X dL_acts_418 ?_
                refine g_iald X (ia_80 (by omega)) dL_acts_419 ?_
                refine g_if_ge (tgt := 442) X (by first | exact hR398 _ _ | exact hR15 _ _ | exact hR6 _ _ | exact hR0 _ _ | assumption | (unfold InR; omega)) dL_acts_420 (by decide) (fun h420 => ?_) (fun h420 => ?_)
                · skip
                  refine g_aload2 X dL_acts_442 ?_
                  refine g_bipush X dL_acts_443 (by decide +kernel) ?_
                  refine g_iload7 X dL_acts_445 ?_
                  refine g_imul X dL_acts_447 ?_
                  refine g_iload8 X dL_acts_448 ?_
                  refine g_iadd X dL_acts_450 ?_
                  refine g_iconst X dL_acts_451 ?_
                  refine g_iast X (ia_80 (by omega)) (by first | exact hR398 _ _ | exact hR15 _ _ | exact hR6 _ _ | exact hR0 _ _ | assumption | (unfold InR; omega)) dL_acts_452 ?_
                  refine g_rg (fun hR452 => ?_)
                  obtain ⟨σ2, hs2⟩ : ∃ s, s = up σ398 80 (7 * v + t) (-1) := ⟨_, rfl⟩
                  rw [← hs2]
                  rw [← hs2] at hR452
                  have e2 : σ2 80 (7 * v + t) = -1 := by rw [hs2]; unfold up; rw [if_pos ⟨rfl, rfl⟩]
                  have f2 : ∀ q k, ¬ (q = 80 ∧ k = 7 * v + t) → σ2 q k = σ398 q k := fun q k a => by rw [hs2]; unfold up; rw [if_neg a]
                  have hC2 := tC.hi (fun q k a => f2 q k (by omega))
                  have hT2 := hC2.1 0 (by omega) (by omega)
                  have hm2 : σ2 (TB 0) 0 = σ398 (TB 0) 0 := f2 _ _ (by unfold TB; omega)
                  have hn2 : σ2 (TB 0) 1 = σ398 (TB 0) 1 := f2 _ _ (by unfold TB; omega)
                  have hL2 := L_pair (σ1 := σ2) (v := v) (i := t) (x := -1) hLt (by omega) (by omega) (by omega) f2 e2
                  have htk := pair_tok hC2 (v := v) (t := t) (x := -1) (by omega) (by omega) (by omega)
                  have htot2 : RW σ2 (AW σ2) 0 0 = RW σ (AW σ) 0 0 := (RW_t (tC.1 0 (by omega) (by omega)) (fun q k a b => f2 q k (by omega))).trans htot
                  have hbu := (bar_up (σ := σ) hC2 (v := v) (t := t) (by omega) (by omega)).2
                  have hb9 : ¬ isB σ2 0 v t = 1 := fun g => by
                    have g2 := (isB_c (σ := σ2) (w := v) (j := t) (by omega)).mp g
                    rw [f2 _ _ (by unfold TR; omega)] at g2
                    omega
                  refine g_aload0 X dL_acts_453 ?_
                  refine g_iload7 X dL_acts_454 ?_
                  refine g_iload8 X dL_acts_456 ?_
                  refine g_I2 X (k_X6_bar E hC2 (show InR v by unfold InR; omega) (show InR t by unfold InR; omega)) gL_acts_X6_bar rfl (by decide +kernel) (by decide) ob_0 (Nat.le_of_ble_eq_true rfl) dL_acts_458 (fun z458 σ458 hz458 hp458 => ?_)
                  refine g_rg (fun hR458 => ?_)
                  rw [if_pos (show (0 ≤ v ∧ v < σ2 (TB 0) 0) ∧ 0 ≤ t ∧ t < σ2 (TB 0) 1 by omega), if_neg hb9, if_pos (show (0 ≤ v ∧ v < σ2 (TB 0) 0) ∧ (0 ≤ t ∧ t < σ2 (TB 0) 1) ∧ isB σ2 0 v t ≠ 1 from ⟨by omega, by omega, hb9⟩)] at hp458
                  have hL3 := hL2.q hp458.2
                  have htot3 := RW_q htk hp458.2
                  have hzb3 := RW_b htk (AW (up (kp σ2) (TR 0 v) t (-1))) 0 0 (by omega)
                  refine g_istore10 X dL_acts_461 (by decide) (by first | exact Or.inl rfl | exact Or.inr ⟨_, rfl, rfl⟩) ?_
                  refine g_iload10 X dL_acts_463 ?_
                  refine g_if_lt (tgt := 484) X (by first | exact hR458 _ _ | exact hR452 _ _ | exact hR398 _ _ | exact hR15 _ _ | exact hR6 _ _ | exact hR0 _ _ | assumption | (unfold InR; omega)) dL_acts_465 (by decide) (fun h465 => ?_) (fun h465 => ?_)
                  · skip
                    exfalso
                    omega -- CLOSED
                  · skip
                    refine g_iload10 X dL_acts_468 ?_
                    refine g_aload0 X dL_acts_470 ?_
                    refine g_I0 X (k_X6_total E hL3.1) gL_acts_X6_total rfl (by decide +kernel) (by decide) ob_0 (Nat.le_of_ble_eq_true rfl) dL_acts_471 (fun z471 σ471 hz471 hp471 => ?_)
                    refine g_rg (fun hR471 => ?_)
                    refine g_iload9 X dL_acts_474 ?_
                    refine g_isub X dL_acts_476 ?_
                    refine g_icmp_ne (tgt := 484) X (by first | exact hR471 _ _ | exact hR458 _ _ | exact hR452 _ _ | exact hR398 _ _ | exact hR15 _ _ | exact hR6 _ _ | exact hR0 _ _ | assumption | (unfold InR; omega)) (by first | exact hR471 _ _ | exact hR458 _ _ | exact hR452 _ _ | exact hR398 _ _ | exact hR15 _ _ | exact hR6 _ _ | exact hR0 _ _ | assumption | (unfold InR; omega)) dL_acts_477 (by decide) (fun h477 => ?_) (fun h477 => ?_)
                    · skip
                      exfalso
                      omega -- CLOSED
                    · skip
                      refine g_iconst X dL_acts_480 ?_
                      refine g_goto (tgt := 485) X dL_acts_481 (by decide) ?_
                      exact g_zret X hr (by first | exact Or.inl rfl | exact Or.inr rfl | omega) ⟨rfl, hL3.q hp471.2⟩ dL_acts_485
                · skip
                  refine g_aload0 X dL_acts_423 ?_
                  refine g_iload7 X dL_acts_424 ?_
                  refine g_iload8 X dL_acts_426 ?_
                  refine g_I2 X (k_X6_bar E tC (show InR v by unfold InR; omega) (show InR t by unfold InR; omega)) gL_acts_X6_bar rfl (by decide +kernel) (by decide) ob_0 (Nat.le_of_ble_eq_true rfl) dL_acts_428 (fun z428 σ428 hz428 hp428 => ?_)
                  refine g_rg (fun hR428 => ?_)
                  have hb9 : isB σ398 0 v t = 1 := by unfold isB; rw [if_pos (by omega)]
                  rw [if_pos (show (0 ≤ v ∧ v < σ398 (TB 0) 0) ∧ 0 ≤ t ∧ t < σ398 (TB 0) 1 by omega), if_pos hb9, if_neg (show ¬ ((0 ≤ v ∧ v < σ398 (TB 0) 0) ∧ (0 ≤ t ∧ t < σ398 (TB 0) 1) ∧ isB σ398 0 v t ≠ 1) from fun g => g.2.2 hb9)] at hp428
                  refine g_bipush X dL_acts_431 (by decide +kernel) ?_
                  refine g_icmp_ne (tgt := 440) X (by first | exact hR428 _ _ | exact hR398 _ _ | exact hR15 _ _ | exact hR6 _ _ | exact hR0 _ _ | assumption | (unfold InR; omega)) (by first | exact hR428 _ _ | exact hR398 _ _ | exact hR15 _ _ | exact hR6 _ _ | exact hR0 _ _ | assumption | (unfold InR; omega)) dL_acts_433 (by decide) (fun h433 => ?_) (fun h433 => ?_)
                  · skip
                    exact absurd hp428.1 h433 -- CLOSED
                  · skip
                    refine g_iconst X dL_acts_436 ?_
                    refine g_goto (tgt := 441) X dL_acts_437 (by decide) ?_
                    exact g_zret X hr (by first | exact Or.inl rfl | exact Or.inr rfl | omega) ⟨rfl, hLt.q hp428.2⟩ dL_acts_441
            · skip
              have hy7 : 0 ≤ z6 / 7 ∧ z6 / 7 ≤ z6 := by omega
              refine g_aload3 X dL_acts_334 ?_
              refine g_iload7 X dL_acts_335 ?_
              refine g_iald X (ia_81 (by omega)) dL_acts_337 ?_
              refine g_istore8 X dL_acts_338 (by decide) (by first | exact Or.inl rfl | exact Or.inr ⟨_, rfl, rfl⟩) ?_
              refine g_aload3 X dL_acts_340 ?_
              refine g_iload7 X dL_acts_341 ?_
              refine g_iload5 X dL_acts_343 ?_
              refine g_bipush X dL_acts_345 (by decide +kernel) ?_
              refine g_idiv X (by first | omega | (unfold InR; omega)) (by unfold InR; omega) (by omega) (by omega) dL_acts_347 ?_
              have J363 : ∀ (f : Int), (1 ≤ f ∧ f ≤ 10000) → WG E ad 12 σ 363 [some (.ref (ad 0)), some (.ref (ad 79)), some (.ref (ad 80)), some (.ref (ad 81)), some (.int (iI z0)), some (.int (iI z6)), some (.int (iI z15)), some (.int (iI v)), some (.int (iI (σ 81 v))), none, none, none] [.int (iI f), .int (iI (z6 / 7)), .int (iI v), .ref (ad 81)] := by
                intro f hf
                refine g_irem X (by unfold InR; omega) (by unfold InR; omega) (by omega) (by omega) dL_acts_363 ?_
                have hx0 : 0 ≤ z6 / 7 % f := Int.emod_nonneg _ (by omega)
                have hx1 : z6 / 7 % f < f := Int.emod_lt_of_pos _ (by omega)
                obtain ⟨x, hx⟩ : ∃ x, x = z6 / 7 % f := ⟨_, rfl⟩
                rw [← hx] at hx0 hx1 ⊢
                refine g_iast X (ia_81 (by omega)) (by first | exact hR15 _ _ | exact hR6 _ _ | exact hR0 _ _ | assumption | (unfold InR; omega)) dL_acts_364 ?_
                refine g_rg (fun hR364 => ?_)
                obtain ⟨σ2, hs2⟩ : ∃ s, s = up σ 81 v x := ⟨_, rfl⟩
                rw [← hs2]
                rw [← hs2] at hR364
                have e2 : σ2 81 v = x := by rw [hs2]; unfold up; rw [if_pos ⟨rfl, rfl⟩]
                have f2 : ∀ q k, ¬ (q = 81 ∧ k = v) → σ2 q k = σ q k := fun q k a => by rw [hs2]; unfold up; rw [if_neg a]
                have hC2 := hC.hi (fun q k a => f2 q k (by omega))
                have hm2 : σ2 (TB 0) 0 = σ (TB 0) 0 := f2 _ _ (by unfold TB; omega)
                have hi2 : σ2 (TI 0) v = σ (TI 0) v := f2 _ _ (by unfold TI; omega)
                have hL2 := L_idle (σ1 := σ2) (v := v) (x := x) hL (by omega) (by omega) f2 e2
                refine g_aload0 X dL_acts_365 ?_
                refine g_iload7 X dL_acts_366 ?_
                refine g_aload3 X dL_acts_368 ?_
                refine g_iload7 X dL_acts_369 ?_
                refine g_iald X (ia_81 (by omega)) dL_acts_371 ?_
                rw [e2]
                refine g_X2 X (k_X6_idle E hC2 (show InR v by unfold InR; omega) (show InR x by unfold InR; omega)) gL_acts_X6_idle rfl (by decide +kernel) (by decide) ob_0 (Nat.le_of_ble_eq_true rfl) dL_acts_372 (fun z372 σ372 hz372 hp372 => ?_)
                refine g_rg (fun hR372 => ?_)
                rw [if_pos (show (0 ≤ v ∧ v < σ2 (TB 0) 0) ∧ 0 ≤ x ∧ x ≤ 9999 by omega), if_pos (show (0 ≤ v ∧ v < σ2 (TB 0) 0) ∧ 0 ≤ x ∧ x ≤ 9999 by omega)] at hp372
                obtain ⟨e372, s372⟩ := hp372
                rw [← s372] at hL2
                refine g_iload8 X dL_acts_375 ?_
                refine g_icmp_ne (tgt := 384) X (by first | exact hR372 _ _ | exact hR364 _ _ | exact hR15 _ _ | exact hR6 _ _ | exact hR0 _ _ | assumption | (unfold InR; omega)) (by first | exact hR372 _ _ | exact hR364 _ _ | exact hR15 _ _ | exact hR6 _ _ | exact hR0 _ _ | assumption | (unfold InR; omega)) dL_acts_377 (by decide) (fun h377 => ?_) (fun h377 => ?_)
                · skip
                  exfalso
                  omega -- CLOSED
                · skip
                  refine g_iconst X dL_acts_380 ?_
                  refine g_goto (tgt := 385) X dL_acts_381 (by decide) ?_
                  exact g_zret X hr (by first | exact Or.inl rfl | exact Or.inr rfl | omega) ⟨rfl, hL2⟩ dL_acts_385
              refine g_iload5 X dL_acts_348 ?_
              refine g_iconst X dL_acts_350 ?_
              refine g_irem X (by first | omega | (unfold InR; omega)) (by unfold InR; omega) (by omega) (by omega) dL_acts_351 ?_
              refine g_if_ne (tgt := 361) X (by first | exact hR15 _ _ | exact hR6 _ _ | exact hR0 _ _ | assumption | (unfold InR; omega)) dL_acts_352 (by decide) (fun h352 => ?_) (fun h352 => ?_)
              · skip
                refine g_bipush X dL_acts_361 (by decide +kernel) ?_
                exact J363 _ (by omega)
              · skip
                refine g_sipush X dL_acts_355 (by decide +kernel) ?_
                refine g_goto (tgt := 363) X dL_acts_358 (by decide) ?_
                exact J363 _ (by omega)
        · skip
          have J129 : ∀ (f : Int), (0 ≤ f ∧ f < 10000000) → WG E ad 12 σ 129 [some (.ref (ad 0)), some (.ref (ad 79)), some (.ref (ad 80)), some (.ref (ad 81)), some (.int (iI z0)), some (.int (iI z6)), some (.int (iI z15)), some (.int (iI v)), none, none, none, none] [.int (iI f)] := by
            intro f hf
            refine g_istore8 X dL_acts_129 (by decide) (by first | exact Or.inl rfl | exact Or.inr ⟨_, rfl, rfl⟩) ?_
            refine g_aload3 X dL_acts_131 ?_
            refine g_iload7 X dL_acts_132 ?_
            refine g_iald X (ia_81 (by omega)) dL_acts_134 ?_
            refine g_i2l X dL_acts_135 ?_
            rw [iI_l (by unfold InR; omega)]
            refine g_lstore9 X dL_acts_136 (by decide) (by first | exact Or.inl rfl | exact Or.inr ⟨_, rfl, rfl⟩) ?_
            refine g_iconst X dL_acts_138 ?_
            refine g_istore11 X dL_acts_139 (by decide) (by first | exact Or.inl rfl | exact Or.inr ⟨_, rfl, rfl⟩) ?_
            have L141 : ∀ (n141 : Nat) (t mo : Int), (σ (TB 0) 1 - t).toNat < n141 → (0 ≤ t ∧ t ≤ σ (TB 0) 1) → (mo = gC σ 0 v t) → WG E ad 12 σ 141 [some (.ref (ad 0)), some (.ref (ad 79)), some (.ref (ad 80)), some (.ref (ad 81)), some (.int (iI z0)), some (.int (iI z6)), some (.int (iI z15)), some (.int (iI v)), some (.int (iI f)), some (.long (lL mo)), none, some (.int (iI t))] [] := by
              intro n141
              induction n141 with
              | zero => intro t mo hn; exact absurd hn (Nat.not_lt_zero _)
              | succ n141 ih141 =>
                intro t mo hn141 ht hmo
                refine g_rg (fun hRL141 => ?_)
                have hgb := (gC_b hT0 (w := v) (by omega) t.toNat (by omega)).1
                rw [Int.toNat_of_nonneg ht.1, ← hmo] at hgb
                refine g_iload11 X dL_acts_141 ?_
                refine g_aload1 X dL_acts_143 ?_
                refine g_iconst X dL_acts_144 ?_
                refine g_iald X (ia_79 (by omega)) dL_acts_145 ?_
                refine g_icmp_ge (tgt := 190) X (by first | exact hRL141 _ _ | exact hR15 _ _ | exact hR6 _ _ | exact hR0 _ _ | assumption | (unfold InR; omega)) (by first | exact hRL141 _ _ | exact hR15 _ _ | exact hR6 _ _ | exact hR0 _ _ | assumption | (unfold InR; omega)) dL_acts_146 (by decide) (fun h146 => ?_) (fun h146 => ?_)
                · skip
                  have htn : t = σ (TB 0) 1 := by omega
                  rw [htn] at hmo
                  have hp0 : 0 ≤ mo * f := Int.mul_nonneg (by omega) (by omega)
                  have hp1 : mo * f ≤ 9999 * 10000000 := Int.le_trans (Int.mul_le_mul_of_nonneg_right hgb.2 (by omega)) (Int.mul_le_mul_of_nonneg_left (by omega) (by omega))
                  have hInL : InL (mo * f) := ⟨by omega, by omega⟩
                  refine g_lload9 X dL_acts_190 ?_
                  refine g_iload8 X dL_acts_192 ?_
                  refine g_i2l X dL_acts_194 ?_
                  refine g_lmul X dL_acts_195 ?_
                  rw [iI_l (by unfold InR; omega), lL_mul]
                  refine g_ldc2 X (v := 9999) (by decide +kernel) dL_acts_196 ?_
                  rw [show (9999 : Int64) = lL 9999 from rfl]
                  refine g_lcmp X dL_acts_199 ?_
                  rw [lL_cmp (b := 9999) hInL ⟨by omega, by omega⟩]
                  have hc4 := c3_v (mo * f) 9999
                  refine g_if_le (tgt := 222) X (by first | exact hRL141 _ _ | exact hR15 _ _ | exact hR6 _ _ | exact hR0 _ _ | assumption | (unfold InR; omega)) dL_acts_200 (by decide) (fun h200 => ?_) (fun h200 => ?_)
                  · skip
                    have hgu := gC_u hT0 (w := v) (by omega)
                    have hvf := mul_b (show 0 ≤ σ 81 v by omega) (show σ 81 v ≤ mo by omega) (show 0 ≤ f by omega) (show mo * f ≤ 9999 by omega)
                    refine g_aload3 X dL_acts_222 ?_
                    refine g_iload7 X dL_acts_223 ?_
                    refine g_aload3 X dL_acts_225 ?_
                    refine g_iload7 X dL_acts_226 ?_
                    refine g_iald X (ia_81 (by omega)) dL_acts_228 ?_
                    refine g_i2l X dL_acts_229 ?_
                    refine g_iload8 X dL_acts_230 ?_
                    refine g_i2l X dL_acts_232 ?_
                    refine g_lmul X dL_acts_233 ?_
                    refine g_l2i X dL_acts_234 ?_
                    rw [iI_l (by unfold InR; omega), iI_l (by unfold InR; omega), lL_mul, lL_i (by unfold InR; omega)]
                    refine g_iast X (ia_81 (by omega)) (by first | exact hRL141 _ _ | exact hR15 _ _ | exact hR6 _ _ | exact hR0 _ _ | assumption | (unfold InR; omega)) dL_acts_235 ?_
                    refine g_rg (fun hR235 => ?_)
                    refine g_iconst X dL_acts_236 ?_
                    refine g_istore11 X dL_acts_237 (by decide) (by first | exact Or.inl rfl | exact Or.inr ⟨_, rfl, rfl⟩) ?_
                    have L239 : ∀ (n239 : Nat) (t2 : Int) (σ1 : St), (σ (TB 0) 1 - t2).toNat < n239 → (0 ≤ t2 ∧ t2 ≤ σ (TB 0) 1) → (σ1 = lwM σ v f t2) → WG E ad 12 σ1 239 [some (.ref (ad 0)), some (.ref (ad 79)), some (.ref (ad 80)), some (.ref (ad 81)), some (.int (iI z0)), some (.int (iI z6)), some (.int (iI z15)), some (.int (iI v)), some (.int (iI f)), some (.long (lL mo)), none, some (.int (iI t2))] [] := by
                      intro n239
                      induction n239 with
                      | zero => intro t2 σ1 hn; exact absurd hn (Nat.not_lt_zero _)
                      | succ n239 ih239 =>
                        intro t2 σ1 hn239 ht2 hs
                        refine g_rg (fun hRL239 => ?_)
                        have e79 : σ1 79 1 = σ 79 1 := by rw [hs]; unfold lwM; rw [if_neg (by omega), if_neg (by omega)]
                        have e8 : σ1 80 (7 * v + t2) = σ 80 (7 * v + t2) := by rw [hs]; unfold lwM; rw [if_neg (by omega), if_neg (by omega)]
                        refine g_iload11 X dL_acts_239 ?_
                        refine g_aload1 X dL_acts_241 ?_
                        refine g_iconst X dL_acts_242 ?_
                        refine g_iald X (ia_79 (by omega)) dL_acts_243 ?_
                        refine g_icmp_ge (tgt := 296) X (by first | exact hRL239 _ _ | exact hR235 _ _ | exact hRL141 _ _ | exact hR15 _ _ | exact hR6 _ _ | exact hR0 _ _ | assumption | (unfold InR; omega)) (by first | exact hRL239 _ _ | exact hR235 _ _ | exact hRL141 _ _ | exact hR15 _ _ | exact hR6 _ _ | exact hR0 _ _ | assumption | (unfold InR; omega)) dL_acts_244 (by decide) (fun h244 => ?_) (fun h244 => ?_)
                        · skip
                          have ht9 : t2 = σ (TB 0) 1 := by omega
                          have f2 : ∀ q k, σ1 q k = lwM σ v f (σ (TB 0) 1) q k := fun q k => by rw [hs, ht9]
                          have c2 : ∀ q k, q < 79 → σ1 q k = σ q k := fun q k a => by rw [f2]; unfold lwM; rw [if_neg (by omega), if_neg (by omega)]
                          have hC2 := hC.hi c2
                          have hm2 : σ1 (TB 0) 0 = σ (TB 0) 0 := c2 _ _ (by unfold TB; omega)
                          have hn2 : σ1 (TB 0) 1 = σ (TB 0) 1 := c2 _ _ (by unfold TB; omega)
                          have hg2 : gC σ1 0 v (σ1 (TB 0) 1) = mo := by rw [gC_cg c2 (by omega), hn2, hmo]
                          have hL2 := L_times (σ1 := σ1) (v := v) (f := f) hL (by omega) (by omega) (by rw [← hmo]; omega) (fun q k a b => by rw [f2]; unfold lwM; rw [if_neg a, if_neg b]) (by rw [f2]; unfold lwM; rw [if_pos ⟨rfl, rfl⟩]) (fun j a b => by rw [f2]; unfold lwM; rw [if_neg (by omega), if_pos (by omega)])
                          refine g_aload0 X dL_acts_296 ?_
                          refine g_iload7 X dL_acts_297 ?_
                          refine g_iload8 X dL_acts_299 ?_
                          refine g_X2 X (k_X6_times E hC2 (show InR v by unfold InR; omega) (show InR f by unfold InR; omega)) gL_acts_X6_times rfl (by decide +kernel) (by decide) ob_0 (Nat.le_of_ble_eq_true rfl) dL_acts_301 (fun z301 σ301 hz301 hp301 => ?_)
                          refine g_rg (fun hR301 => ?_)
                          rw [hg2, if_pos (show (0 ≤ v ∧ v < σ1 (TB 0) 0) ∧ 0 ≤ f ∧ f ≤ 2000000000 by omega), if_pos (show mo * f ≤ 9999 by omega), if_pos (show ((0 ≤ v ∧ v < σ1 (TB 0) 0) ∧ 0 ≤ f ∧ f ≤ 2000000000) ∧ mo * f ≤ 9999 by omega)] at hp301
                          obtain ⟨e301, s301⟩ := hp301
                          rw [← s301] at hL2
                          rw [e301]
                          refine g_i2l X dL_acts_304 ?_
                          refine g_lload9 X dL_acts_305 ?_
                          refine g_iload8 X dL_acts_307 ?_
                          refine g_i2l X dL_acts_309 ?_
                          refine g_lmul X dL_acts_310 ?_
                          rw [iI_l (by unfold InR; omega), iI_l (by unfold InR; omega), lL_mul]
                          refine g_lcmp X dL_acts_311 ?_
                          rw [lL_cmp hInL hInL]
                          have hc5 := c3_v (mo * f) (mo * f)
                          refine g_if_ne (tgt := 319) X (by first | exact hR301 _ _ | exact hRL239 _ _ | exact hR235 _ _ | exact hRL141 _ _ | exact hR15 _ _ | exact hR6 _ _ | exact hR0 _ _ | assumption | (unfold InR; omega)) dL_acts_312 (by decide) (fun h312 => ?_) (fun h312 => ?_)
                          · skip
                            exfalso
                            omega -- CLOSED
                          · skip
                            refine g_iconst X dL_acts_315 ?_
                            refine g_goto (tgt := 320) X dL_acts_316 (by decide) ?_
                            exact g_zret X hr (by first | exact Or.inl rfl | exact Or.inr rfl | omega) ⟨rfl, hL2⟩ dL_acts_320
                        · skip
                          have hce1 := hc80 v t2 (by omega) (by omega) (by omega) (by omega)
                          have hcb1 := htc v t2 (by omega) (by omega) (by omega) (by omega)
                          have hcg1 := hgu.2.2 t2 (by omega) (by omega)
                          refine g_aload2 X dL_acts_247 ?_
                          refine g_bipush X dL_acts_248 (by decide +kernel) ?_
                          refine g_iload7 X dL_acts_250 ?_
                          refine g_imul X dL_acts_252 ?_
                          refine g_iload11 X dL_acts_253 ?_
                          refine g_iadd X dL_acts_255 ?_
                          refine g_aload2 X dL_acts_256 ?_
                          refine g_bipush X dL_acts_257 (by decide +kernel) ?_
                          refine g_iload7 X dL_acts_259 ?_
                          refine g_imul X dL_acts_261 ?_
                          refine g_iload11 X dL_acts_262 ?_
                          refine g_iadd X dL_acts_264 ?_
                          refine g_iald X (ia_80 (by omega)) dL_acts_265 ?_
                          rw [e8]
                          refine g_if_ge (tgt := 273) X (by first | exact hRL239 _ _ | exact hR235 _ _ | exact hRL141 _ _ | exact hR15 _ _ | exact hR6 _ _ | exact hR0 _ _ | assumption | (unfold InR; omega)) dL_acts_266 (by decide) (fun h266 => ?_) (fun h266 => ?_)
                          · skip
                            have hvf2 := mul_b (show 0 ≤ σ 80 (7 * v + t2) by omega) (show σ 80 (7 * v + t2) ≤ mo by omega) (show 0 ≤ f by omega) (show mo * f ≤ 9999 by omega)
                            refine g_aload2 X dL_acts_273 ?_
                            refine g_bipush X dL_acts_274 (by decide +kernel) ?_
                            refine g_iload7 X dL_acts_276 ?_
                            refine g_imul X dL_acts_278 ?_
                            refine g_iload11 X dL_acts_279 ?_
                            refine g_iadd X dL_acts_281 ?_
                            refine g_iald X (ia_80 (by omega)) dL_acts_282 ?_
                            rw [e8]
                            refine g_i2l X dL_acts_283 ?_
                            refine g_iload8 X dL_acts_284 ?_
                            refine g_i2l X dL_acts_286 ?_
                            refine g_lmul X dL_acts_287 ?_
                            refine g_l2i X dL_acts_288 ?_
                            try rw [iI_l (by unfold InR; omega), iI_l (by unfold InR; omega), lL_mul, lL_i (by unfold InR; omega)]
                            refine g_iast X (ia_80 (by omega)) (by first | exact hRL239 _ _ | exact hR235 _ _ | exact hRL141 _ _ | exact hR15 _ _ | exact hR6 _ _ | exact hR0 _ _ | assumption | (unfold InR; omega)) dL_acts_289 ?_
                            refine g_rg (fun hR289 => ?_)
                            refine g_iinc11 X dL_acts_290 (by decide) (by first | exact Or.inl rfl | exact Or.inr ⟨_, rfl, rfl⟩) ?_
                            refine g_goto (tgt := 239) X dL_acts_293 (by decide) ?_
                            refine ih239 _ _ (by omega) ?_ ?_
                            · omega
                            · first
                              | (rw [hs, ← lwM_s σ v f t2 ht2.1, if_pos (by omega)]; done)
                              | (rw [hs, ← lwM_s σ v f t2 ht2.1, if_neg (by omega)]; done)
                          · skip
                            refine g_iconst X dL_acts_269 ?_
                            refine g_goto (tgt := 289) X dL_acts_270 (by decide) ?_
                            try rw [iI_l (by unfold InR; omega), iI_l (by unfold InR; omega), lL_mul, lL_i (by unfold InR; omega)]
                            refine g_iast X (ia_80 (by omega)) (by first | exact hRL239 _ _ | exact hR235 _ _ | exact hRL141 _ _ | exact hR15 _ _ | exact hR6 _ _ | exact hR0 _ _ | assumption | (unfold InR; omega)) dL_acts_289 ?_
                            refine g_rg (fun hR289 => ?_)
                            refine g_iinc11 X dL_acts_290 (by decide) (by first | exact Or.inl rfl | exact Or.inr ⟨_, rfl, rfl⟩) ?_
                            refine g_goto (tgt := 239) X dL_acts_293 (by decide) ?_
                            refine ih239 _ _ (by omega) ?_ ?_
                            · omega
                            · first
                              | (rw [hs, ← lwM_s σ v f t2 ht2.1, if_pos (by omega)]; done)
                              | (rw [hs, ← lwM_s σ v f t2 ht2.1, if_neg (by omega)]; done)
                    refine L239 _ _ _ (Nat.lt_succ_self _) ?_ ?_
                    · omega
                    · exact lwM_0 σ v f
                  · skip
                    refine g_aload0 X dL_acts_203 ?_
                    refine g_iload7 X dL_acts_204 ?_
                    refine g_iload8 X dL_acts_206 ?_
                    refine g_X2 X (k_X6_times E hC (show InR v by unfold InR; omega) (show InR f by unfold InR; omega)) gL_acts_X6_times rfl (by decide +kernel) (by decide) ob_0 (Nat.le_of_ble_eq_true rfl) dL_acts_208 (fun z208 σ208 hz208 hp208 => ?_)
                    refine g_rg (fun hR208 => ?_)
                    rw [if_pos (show (0 ≤ v ∧ v < σ (TB 0) 0) ∧ 0 ≤ f ∧ f ≤ 2000000000 by omega), if_neg (show ¬ gC σ 0 v (σ (TB 0) 1) * f ≤ 9999 by rw [← hmo]; omega), if_neg (show ¬ (((0 ≤ v ∧ v < σ (TB 0) 0) ∧ 0 ≤ f ∧ f ≤ 2000000000) ∧ gC σ 0 v (σ (TB 0) 1) * f ≤ 9999) by rw [← hmo]; omega)] at hp208
                    obtain ⟨e208, s208⟩ := hp208
                    refine g_bipush X dL_acts_211 (by decide +kernel) ?_
                    refine g_icmp_ne (tgt := 220) X (by first | exact hR208 _ _ | exact hRL141 _ _ | exact hR15 _ _ | exact hR6 _ _ | exact hR0 _ _ | assumption | (unfold InR; omega)) (by first | exact hR208 _ _ | exact hRL141 _ _ | exact hR15 _ _ | exact hR6 _ _ | exact hR0 _ _ | assumption | (unfold InR; omega)) dL_acts_213 (by decide) (fun h213 => ?_) (fun h213 => ?_)
                    · skip
                      exact absurd e208 h213 -- CLOSED
                    · skip
                      refine g_iconst X dL_acts_216 ?_
                      refine g_goto (tgt := 221) X dL_acts_217 (by decide) ?_
                      exact g_zret X hr (by first | exact Or.inl rfl | exact Or.inr rfl | omega) ⟨rfl, by rw [s208]; exact hL⟩ dL_acts_221
                · skip
                  have hce0 := hc80 v t (by omega) (by omega) (by omega) (by omega)
                  have hcb0 := htc v t (by omega) (by omega) (by omega) (by omega)
                  refine g_aload2 X dL_acts_149 ?_
                  refine g_bipush X dL_acts_150 (by decide +kernel) ?_
                  refine g_iload7 X dL_acts_152 ?_
                  refine g_imul X dL_acts_154 ?_
                  refine g_iload11 X dL_acts_155 ?_
                  refine g_iadd X dL_acts_157 ?_
                  refine g_iald X (ia_80 (by omega)) dL_acts_158 ?_
                  refine g_i2l X dL_acts_159 ?_
                  rw [iI_l (by unfold InR; omega)]
                  refine g_lload9 X dL_acts_160 ?_
                  refine g_lcmp X dL_acts_162 ?_
                  rw [lL_cmp ⟨by omega, by omega⟩ ⟨by omega, by omega⟩]
                  have hc3 := c3_v (σ 80 (7 * v + t)) mo
                  refine g_if_le (tgt := 180) X (by first | exact hRL141 _ _ | exact hR15 _ _ | exact hR6 _ _ | exact hR0 _ _ | assumption | (unfold InR; omega)) dL_acts_163 (by decide) (fun h163 => ?_) (fun h163 => ?_)
                  · skip
                    refine g_lload9 X dL_acts_180 ?_
                    refine g_lstore9 X dL_acts_182 (by decide) (by first | exact Or.inl rfl | exact Or.inr ⟨_, rfl, rfl⟩) ?_
                    refine g_iinc11 X dL_acts_184 (by decide) (by first | exact Or.inl rfl | exact Or.inr ⟨_, rfl, rfl⟩) ?_
                    refine g_goto (tgt := 141) X dL_acts_187 (by decide) ?_
                    refine ih141 _ _ (by omega) ?_ ?_
                    · omega
                    · have hce := hc80 v t (by omega) (by omega) (by omega) (by omega)
                      rw [gC_s (by omega)]
                      omega
                  · skip
                    refine g_aload2 X dL_acts_166 ?_
                    refine g_bipush X dL_acts_167 (by decide +kernel) ?_
                    refine g_iload7 X dL_acts_169 ?_
                    refine g_imul X dL_acts_171 ?_
                    refine g_iload11 X dL_acts_172 ?_
                    refine g_iadd X dL_acts_174 ?_
                    refine g_iald X (ia_80 (by omega)) dL_acts_175 ?_
                    refine g_i2l X dL_acts_176 ?_
                    rw [iI_l (by unfold InR; omega)]
                    refine g_goto (tgt := 182) X dL_acts_177 (by decide) ?_
                    refine g_lstore9 X dL_acts_182 (by decide) (by first | exact Or.inl rfl | exact Or.inr ⟨_, rfl, rfl⟩) ?_
                    refine g_iinc11 X dL_acts_184 (by decide) (by first | exact Or.inl rfl | exact Or.inr ⟨_, rfl, rfl⟩) ?_
                    refine g_goto (tgt := 141) X dL_acts_187 (by decide) ?_
                    refine ih141 _ _ (by omega) ?_ ?_
                    · omega
                    · have hce := hc80 v t (by omega) (by omega) (by omega) (by omega)
                      rw [gC_s (by omega)]
                      omega
            refine L141 _ _ _ (Nat.lt_succ_self _) ?_ ?_
            · omega
            · exact hdv
          refine g_iload5 X dL_acts_111 ?_
          refine g_iconst X dL_acts_113 ?_
          refine g_irem X (by first | omega | (unfold InR; omega)) (by unfold InR; omega) (by omega) (by omega) dL_acts_114 ?_
          refine g_if_ne (tgt := 123) X (by first | exact hR15 _ _ | exact hR6 _ _ | exact hR0 _ _ | assumption | (unfold InR; omega)) dL_acts_115 (by decide) (fun h115 => ?_) (fun h115 => ?_)
          · skip
            refine g_iload5 X dL_acts_123 ?_
            refine g_iconst X dL_acts_125 ?_
            refine g_idiv X (by first | omega | (unfold InR; omega)) (by unfold InR; omega) (by omega) (by omega) dL_acts_126 ?_
            refine g_iconst X dL_acts_127 ?_
            refine g_irem X (by first | omega | (unfold InR; omega)) (by unfold InR; omega) (by omega) (by omega) dL_acts_128 ?_
            exact J129 _ (by omega)
          · skip
            refine g_iload5 X dL_acts_118 ?_
            refine g_goto (tgt := 129) X dL_acts_120 (by decide) ?_
            exact J129 _ (by omega)
      · skip
        refine g_iload6 X dL_acts_63 ?_
        refine g_bipush X dL_acts_65 (by decide +kernel) ?_
        refine g_icmp_ge (tgt := 82) X (by first | exact hR15 _ _ | exact hR6 _ _ | exact hR0 _ _ | assumption | (unfold InR; omega)) (by first | exact hR15 _ _ | exact hR6 _ _ | exact hR0 _ _ | assumption | (unfold InR; omega)) dL_acts_67 (by decide) (fun h67 => ?_) (fun h67 => ?_)
        · skip
          refine g_aload0 X dL_acts_82 ?_
          refine g_aload1 X dL_acts_83 ?_
          refine g_aload2 X dL_acts_84 ?_
          refine g_aload3 X dL_acts_85 ?_
          refine g_iload6 X dL_acts_86 ?_
          refine g_iconst X dL_acts_88 ?_
          refine g_irem X (by unfold InR; omega) (by unfold InR; omega) (by omega) (by omega) dL_acts_89 ?_
          refine g_iload5 X dL_acts_90 ?_
          refine g_LI6 X (k_L_tables E hL (by omega) (by omega)) gL_acts_L_tables rfl (by decide +kernel) (by decide) (Nat.le_of_ble_eq_true rfl) dL_acts_92 (fun z92 σ92 hz92 hp92 => ?_)
          refine g_rg (fun hR92 => ?_)
          exact g_zret X hr (by first | exact Or.inl rfl | exact Or.inr rfl | omega) (by first | exact hp76 | exact hp92) dL_acts_95
        · skip
          refine g_aload0 X dL_acts_70 ?_
          refine g_aload1 X dL_acts_71 ?_
          refine g_aload2 X dL_acts_72 ?_
          refine g_aload3 X dL_acts_73 ?_
          refine g_iload5 X dL_acts_74 ?_
          refine g_LI5 X (k_L_reads E hL (by omega)) gL_acts_L_reads rfl (by decide +kernel) (by decide) (Nat.le_of_ble_eq_true rfl) dL_acts_76 (fun z76 σ76 hz76 hp76 => ?_)
          refine g_rg (fun hR76 => ?_)
          refine g_goto (tgt := 95) X dL_acts_79 (by decide) ?_
          exact g_zret X hr (by first | exact Or.inl rfl | exact Or.inr rfl | omega) (by first | exact hp76 | exact hp92) dL_acts_95
  · skip
    refine g_aload0 X dL_acts_26 ?_
    refine g_aload1 X dL_acts_27 ?_
    refine g_aload2 X dL_acts_28 ?_
    refine g_aload3 X dL_acts_29 ?_
    have J44 : ∀ (f : Int), (0 ≤ f ∧ f ≤ 3) → WG E ad 12 σ 44 [some (.ref (ad 0)), some (.ref (ad 79)), some (.ref (ad 80)), some (.ref (ad 81)), some (.int (iI z0)), some (.int (iI z6)), some (.int (iI z15)), none, none, none, none, none] [.int (iI f), .ref (ad 81), .ref (ad 80), .ref (ad 79), .ref (ad 0)] := by
      intro f hf
      refine g_iload5 X dL_acts_44 ?_
      refine g_LI6 X (k_L_tables E hL (by omega) (by omega)) gL_acts_L_tables rfl (by decide +kernel) (by decide) (Nat.le_of_ble_eq_true rfl) dL_acts_46 (fun z46 σ46 hz46 hp46 => ?_)
      refine g_rg (fun hR46 => ?_)
      exact g_zret X hr (by first | exact Or.inl rfl | exact Or.inr rfl | omega) hp46 dL_acts_49
    refine g_iload6 X dL_acts_30 ?_
    refine g_iconst X dL_acts_32 ?_
    refine g_icmp_ge (tgt := 40) X (by first | exact hR15 _ _ | exact hR6 _ _ | exact hR0 _ _ | assumption | (unfold InR; omega)) (by first | exact hR15 _ _ | exact hR6 _ _ | exact hR0 _ _ | assumption | (unfold InR; omega)) dL_acts_33 (by decide) (fun h33 => ?_) (fun h33 => ?_)
    · skip
      refine g_iload6 X dL_acts_40 ?_
      refine g_iconst X dL_acts_42 ?_
      refine g_isub X dL_acts_43 ?_
      exact J44 _ (by omega)
    · skip
      refine g_iconst X dL_acts_36 ?_
      refine g_goto (tgt := 44) X dL_acts_37 (by decide) ?_
      exact J44 _ (by omega)

