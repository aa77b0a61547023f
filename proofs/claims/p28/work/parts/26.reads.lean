/-! THE LAW'S OWN METHODS: reads -/
theorem sepc_v (W i : Int) : sepc W i = 47 ∨ sepc W i = 59 ∨ sepc W i = 44 := by
  unfold sepc
  by_cases g1 : i % (W + 1) = W
  · rw [if_pos g1]; exact Or.inl rfl
  · rw [if_neg g1]
    by_cases g2 : i % (W + 1) = 0
    · rw [if_pos g2]; exact Or.inr (Or.inl rfl)
    · rw [if_neg g2]; exact Or.inr (Or.inr rfl)
set_option maxHeartbeats 4000000 in
set_option maxRecDepth 100000 in
theorem k_L_reads (E0 : EV) {ad : Int → Nat} {σ : St} {y : Int} (hL : LW σ) (hy : 0 ≤ y ∧ y < 10000000) : MGE E0 yL_reads wsL_reads 7 152 ad σ [.ref (ad 0), .ref (ad 79), .ref (ad 80), .ref (ad 81), .int (iI y)] (PI (fun z σ' => z = 1 ∧ LW σ')) := by
  refine MGE.of (cc := cL_reads) (maxL := 15) (ret := (some .boolean)) (own := RL) [some (.ref (ad 0)), some (.ref (ad 79)), some (.ref (ad 80)), some (.ref (ad 81)), some (.int (iI y)), none, none, none, none, none, none, none, none, none, none] (by decide +kernel) rfl rfl (Nat.le_of_ble_eq_true rfl) rfl rfl (fun E X hr => ?_)
  refine g_rg (fun hR0 => ?_)
  obtain ⟨hC, h80, h5, h790, h791, h81, hc80⟩ := id hL
  have hT0 := hC.1 0 (by omega) (by omega)
  obtain ⟨hm, hn, hti, htc⟩ := id hT0
  refine g_iconst X dL_reads_0 ?_
  refine g_iload4 X dL_reads_1 ?_
  refine g_iconst X dL_reads_3 ?_
  refine g_irem X (by first | omega | (unfold InR; omega)) (by unfold InR; omega) (by omega) (by omega) dL_reads_4 ?_
  refine g_iadd X dL_reads_5 ?_
  refine g_istore5 X dL_reads_6 (by decide) (by first | exact Or.inl rfl | exact Or.inr ⟨_, rfl, rfl⟩) ?_
  refine g_iconst X dL_reads_8 ?_
  refine g_iload4 X dL_reads_9 ?_
  refine g_iconst X dL_reads_11 ?_
  refine g_idiv X (by first | omega | (unfold InR; omega)) (by unfold InR; omega) (by omega) (by omega) dL_reads_12 ?_
  refine g_iconst X dL_reads_13 ?_
  refine g_irem X (by first | omega | (unfold InR; omega)) (by unfold InR; omega) (by omega) (by omega) dL_reads_14 ?_
  refine g_iadd X dL_reads_15 ?_
  refine g_istore6 X dL_reads_16 (by decide) (by first | exact Or.inl rfl | exact Or.inr ⟨_, rfl, rfl⟩) ?_
  obtain ⟨R, hR⟩ : ∃ R, R = 1 + y % 4 := ⟨_, rfl⟩
  obtain ⟨W, hW⟩ : ∃ W, W = 1 + y / 4 % 3 := ⟨_, rfl⟩
  rw [← hR, ← hW]
  have hRb : 1 ≤ R ∧ R ≤ 4 := by omega
  have hW3 : W = 1 ∨ W = 2 ∨ W = 3 := by omega
  have hN : 1 ≤ R * (W + 1) ∧ R * (W + 1) ≤ 16 := by rcases hW3 with e | e | e <;> rw [e] <;> omega
  refine g_aload0 X dL_reads_18 ?_
  refine g_X0 X (k_X6_clearText E hC) gL_reads_X6_clearText rfl (by decide +kernel) (by decide) ob_0 (Nat.le_of_ble_eq_true rfl) dL_reads_19 (fun z19 σ19 hz19 hp19 => ?_)
  refine g_rg (fun hR19 => ?_)
  obtain ⟨e19, s19⟩ := hp19
  rw [h80] at e19
  have s19b : σ19 = σ := by
    rw [s19]; funext q k; unfold up
    by_cases g : q = 8 ∧ k = 0
    · rw [if_pos g, g.1, g.2, h80]
    · rw [if_neg g]
  rw [s19b]
  refine g_if_lt (tgt := 29) X (by first | exact hR19 _ _ | exact hR0 _ _ | assumption | (unfold InR; omega)) dL_reads_22 (by decide) (fun h22 => ?_) (fun h22 => ?_)
  · skip
    exfalso
    omega -- CLOSED
  · skip
    refine g_iconst X dL_reads_25 ?_
    refine g_goto (tgt := 30) X dL_reads_26 (by decide) ?_
    refine g_istore7 X dL_reads_30 (by decide) (by first | exact Or.inl rfl | exact Or.inr ⟨_, rfl, rfl⟩) ?_
    refine g_iconst X dL_reads_32 ?_
    refine g_istore8 X dL_reads_33 (by decide) (by first | exact Or.inl rfl | exact Or.inr ⟨_, rfl, rfl⟩) ?_
    have L35 : ∀ (n35 : Nat) (k : Int) (σ1 : St) (u9 u10 u11 u12 u13 u14 : Option Value), (R * (W + 1) - k).toNat < n35 → (0 ≤ k ∧ k ≤ R * (W + 1)) → (RDI σ σ1 W k) → WG E ad 15 σ1 35 [some (.ref (ad 0)), some (.ref (ad 79)), some (.ref (ad 80)), some (.ref (ad 81)), some (.int (iI y)), some (.int (iI R)), some (.int (iI W)), some (.int (iI 1)), some (.int (iI k)), u9, u10, u11, u12, u13, u14] [] := by
      intro n35
      induction n35 with
      | zero => intro k σ1 u9 u10 u11 u12 u13 u14 hn; exact absurd hn (Nat.not_lt_zero _)
      | succ n35 ih35 =>
        intro k σ1 u9 u10 u11 u12 u13 u14 hn35 hk hi
        refine g_rg (fun hRL35 => ?_)
        have hb := hi.b (by omega)
        have hC1 := hi.1.ci hC (by omega)
        refine g_iload8 X dL_reads_35 ?_
        refine g_iload5 X dL_reads_37 ?_
        refine g_iload6 X dL_reads_39 ?_
        refine g_iconst X dL_reads_41 ?_
        refine g_iadd X dL_reads_42 ?_
        refine g_imul X dL_reads_43 ?_
        refine g_icmp_ge (tgt := 329) X (by first | exact hRL35 _ _ | exact hR19 _ _ | exact hR0 _ _ | assumption | (unfold InR; omega)) (by first | exact hRL35 _ _ | exact hR19 _ _ | exact hR0 _ _ | assumption | (unfold InR; omega)) dL_reads_44 (by decide) (fun h44 => ?_) (fun h44 => ?_)
        · skip
          refine g_aload1 X dL_reads_329 ?_
          refine g_iconst X dL_reads_330 ?_
          refine g_iload5 X dL_reads_331 ?_
          refine g_iast X (ia_79 (by omega)) (by first | exact hRL35 _ _ | exact hR19 _ _ | exact hR0 _ _ | assumption | (unfold InR; omega)) dL_reads_333 ?_
          refine g_rg (fun hR333 => ?_)
          refine g_aload1 X dL_reads_334 ?_
          refine g_iconst X dL_reads_335 ?_
          refine g_iload6 X dL_reads_336 ?_
          refine g_iast X (ia_79 (by omega)) (by first | exact hR333 _ _ | exact hRL35 _ _ | exact hR19 _ _ | exact hR0 _ _ | assumption | (unfold InR; omega)) dL_reads_338 ?_
          refine g_rg (fun hR338 => ?_)
          obtain ⟨σ5, hs5⟩ : ∃ s, s = up (up σ1 79 0 R) 79 1 W := ⟨_, rfl⟩
          rw [← hs5]
          rw [← hs5] at hR338
          have hkN : k = R * (W + 1) := by omega
          rw [hkN] at hi
          have h5' : ∀ q j, σ5 q j = if q = 79 ∧ j = 0 then R else if q = 79 ∧ j = 1 then W else σ1 q j := fun q j => by
            rw [hs5]; unfold up
            by_cases g : q = 79 ∧ j = 1
            · rw [if_pos g, if_neg (by omega), if_pos g]
            · rw [if_neg g]
              by_cases g2 : q = 79 ∧ j = 0
              · rw [if_pos g2, if_pos g2]
              · rw [if_neg g2, if_neg g2, if_neg g]
          have hC5 : CI σ5 := hC1.hi (fun q j a => by rw [h5', if_neg (by omega), if_neg (by omega)])
          have e59 : σ5 9 = σ1 9 := funext fun j => by rw [h5', if_neg (by omega), if_neg (by omega)]
          have e58 : σ5 8 0 = σ1 8 0 := by rw [h5', if_neg (by omega), if_neg (by omega)]
          have hrz : (rwR (σ5 9) (σ5 8 0)).2.2.1 = 0 := by
            obtain ⟨-, f, v, hx, -, -⟩ := hi
            rw [e59, e58, (tx_all hW3 hRb hx).1]
          refine g_aload0 X dL_reads_339 ?_
          refine g_I0 X (k_X6_read E hC5) gL_reads_X6_read rfl (by decide +kernel) (by decide) ob_0 (Nat.le_of_ble_eq_true rfl) dL_reads_340 (fun z340 σ340 hz340 hp340 => ?_)
          refine g_rg (fun hR340 => ?_)
          rcases hp340 with ⟨g0, -⟩ | ⟨-, σr, hqr, y0, y1, y2, y3, y4, yT, yz, hq2⟩
          · exact absurd hrz g0
          obtain ⟨q1, q2, q3, q4⟩ := rd_end hL hW3 hRb hi h5' hC5 hqr y0 y3 y4 yT hq2
          have hzb := RW_b yT (AW (cpT (kp σr) 0 5)) 0 0 (by omega)
          refine g_istore8 X dL_reads_343 (by decide) (by first | exact Or.inl rfl | exact Or.inr ⟨_, rfl, rfl⟩) ?_
          refine g_iload7 X dL_reads_345 ?_
          refine g_if_eq (tgt := 385) X (by first | exact hR340 _ _ | exact hR338 _ _ | exact hR333 _ _ | exact hRL35 _ _ | exact hR19 _ _ | exact hR0 _ _ | assumption | (unfold InR; omega)) dL_reads_347 (by decide) (fun h347 => ?_) (fun h347 => ?_)
          · skip
            exact absurd h347 (by decide) -- CLOSED
          · skip
            refine g_iload8 X dL_reads_350 ?_
            refine g_if_lt (tgt := 385) X (by first | exact hR340 _ _ | exact hR338 _ _ | exact hR333 _ _ | exact hRL35 _ _ | exact hR19 _ _ | exact hR0 _ _ | assumption | (unfold InR; omega)) dL_reads_352 (by decide) (fun h352 => ?_) (fun h352 => ?_)
            · skip
              exfalso
              omega -- CLOSED
            · skip
              refine g_iload8 X dL_reads_355 ?_
              refine g_aload0 X dL_reads_357 ?_
              refine g_I0 X (k_X6_total E q3) gL_reads_X6_total rfl (by decide +kernel) (by decide) ob_0 (Nat.le_of_ble_eq_true rfl) dL_reads_358 (fun z358 σ358 hz358 hp358 => ?_)
              refine g_rg (fun hR358 => ?_)
              refine g_icmp_ne (tgt := 385) X (by first | exact hR358 _ _ | exact hR340 _ _ | exact hR338 _ _ | exact hR333 _ _ | exact hRL35 _ _ | exact hR19 _ _ | exact hR0 _ _ | assumption | (unfold InR; omega)) (by first | exact hR358 _ _ | exact hR340 _ _ | exact hR338 _ _ | exact hR333 _ _ | exact hRL35 _ _ | exact hR19 _ _ | exact hR0 _ _ | assumption | (unfold InR; omega)) dL_reads_361 (by decide) (fun h361 => ?_) (fun h361 => ?_)
              · skip
                exact absurd (by rw [yz, hp358.1]; exact (RW_q yT hq2).symm) h361 -- CLOSED
              · skip
                refine g_aload0 X dL_reads_364 ?_
                refine g_iconst X dL_reads_365 ?_
                refine g_I1 X (k_X6_fault E (q3.of hp358.2) InR_0) gL_reads_X6_fault rfl (by decide +kernel) (by decide) ob_0 (Nat.le_of_ble_eq_true rfl) dL_reads_366 (fun z366 σ366 hz366 hp366 => ?_)
                refine g_rg (fun hR366 => ?_)
                have e366 : z366 = -4 := by
                  have e9 : σ358 9 = σ340 9 := funext fun j => hp358.2.1 9 j (by omega) (by omega) (by omega) (by omega) (by omega)
                  rw [hp366.1, if_pos (by omega), e9, hp358.2.1 8 0 (by omega) (by omega) (by omega) (by omega) (by omega), if_pos q4]
                have hq3 : QQ σ340 σ366 := hp358.2.tr hp366.2
                refine g_bipush X dL_reads_369 (by decide +kernel) ?_
                refine g_icmp_ne (tgt := 385) X (by first | exact hR366 _ _ | exact hR358 _ _ | exact hR340 _ _ | exact hR338 _ _ | exact hR333 _ _ | exact hRL35 _ _ | exact hR19 _ _ | exact hR0 _ _ | assumption | (unfold InR; omega)) (by first | exact hR366 _ _ | exact hR358 _ _ | exact hR340 _ _ | exact hR338 _ _ | exact hR333 _ _ | exact hRL35 _ _ | exact hR19 _ _ | exact hR0 _ _ | assumption | (unfold InR; omega)) dL_reads_371 (by decide) (fun h371 => ?_) (fun h371 => ?_)
                · skip
                  exact absurd e366 h371 -- CLOSED
                · skip
                  refine g_aload0 X dL_reads_374 ?_
                  refine g_X0 X (k_X6_clearText E (q3.of hq3)) gL_reads_X6_clearText rfl (by decide +kernel) (by decide) ob_0 (Nat.le_of_ble_eq_true rfl) dL_reads_375 (fun z375 σ375 hz375 hp375 => ?_)
                  refine g_rg (fun hR375 => ?_)
                  obtain ⟨e375, s375⟩ := hp375
                  have e8 : σ366 8 0 = σ340 8 0 := hq3.1 8 0 (by omega) (by omega) (by omega) (by omega) (by omega)
                  refine g_if_le (tgt := 385) X (by first | exact hR375 _ _ | exact hR366 _ _ | exact hR358 _ _ | exact hR340 _ _ | exact hR338 _ _ | exact hR333 _ _ | exact hRL35 _ _ | exact hR19 _ _ | exact hR0 _ _ | assumption | (unfold InR; omega)) dL_reads_378 (by decide) (fun h378 => ?_) (fun h378 => ?_)
                  · skip
                    exfalso
                    omega -- CLOSED
                  · skip
                    refine g_iconst X dL_reads_381 ?_
                    refine g_goto (tgt := 386) X dL_reads_382 (by decide) ?_
                    exact g_zret X hr (by first | exact Or.inl rfl | exact Or.inr rfl | omega) ⟨rfl, by
    rw [s375]
    refine q1.q ⟨fun q j a b c d e => ?_, hq3.2.keep (fun q j a b => o_up (by unfold TB at a; omega))⟩
    unfold up
    by_cases g : q = 8 ∧ j = 0
    · rw [if_pos g, if_pos g]
    · rw [if_neg g, if_neg g]; exact hq3.1 q j a b c d e⟩ dL_reads_386
        · skip
          have hdm := dm_b hW3 hk.1 (show k < R * (W + 1) by omega) hRb.2
          refine g_iload8 X dL_reads_47 ?_
          refine g_iload6 X dL_reads_49 ?_
          refine g_iconst X dL_reads_51 ?_
          refine g_iadd X dL_reads_52 ?_
          refine g_idiv X (by unfold InR; omega) (by unfold InR; omega) (by omega) (by omega) dL_reads_53 ?_
          refine g_istore9 X dL_reads_54 (by decide) (by first | exact Or.inl rfl | exact Or.inr ⟨_, rfl, rfl⟩) ?_
          refine g_iload8 X dL_reads_56 ?_
          refine g_iload6 X dL_reads_58 ?_
          refine g_iconst X dL_reads_60 ?_
          refine g_iadd X dL_reads_61 ?_
          refine g_irem X (by first | omega | (unfold InR; omega)) (by unfold InR; omega) (by omega) (by omega) dL_reads_62 ?_
          refine g_istore10 X dL_reads_63 (by decide) (by first | exact Or.inl rfl | exact Or.inr ⟨_, rfl, rfl⟩) ?_
          have hy0 : 0 ≤ y / (1 + k) := Int.ediv_nonneg (by omega) (by omega)
          have hy1 : y / (1 + k) ≤ y := Int.ediv_le_self _ (by omega)
          refine g_iload4 X dL_reads_65 ?_
          refine g_iconst X dL_reads_67 ?_
          refine g_iload8 X dL_reads_68 ?_
          refine g_iadd X dL_reads_70 ?_
          refine g_idiv X (by first | omega | (unfold InR; omega)) (by unfold InR; omega) (by omega) (by omega) dL_reads_71 ?_
          refine g_bipush X dL_reads_72 (by decide +kernel) ?_
          refine g_iload8 X dL_reads_74 ?_
          refine g_imul X dL_reads_76 ?_
          refine g_iadd X dL_reads_77 ?_
          have J93 : ∀ (f : Int), (f = 12 ∨ f = 1000) → WG E ad 15 σ1 93 [some (.ref (ad 0)), some (.ref (ad 79)), some (.ref (ad 80)), some (.ref (ad 81)), some (.int (iI y)), some (.int (iI R)), some (.int (iI W)), some (.int (iI 1)), some (.int (iI k)), some (.int (iI (k / (W + 1)))), some (.int (iI (k % (W + 1)))), u11, u12, u13, u14] [.int (iI f), .int (iI (y / (1 + k) + 7 * k))] := by
            intro f hf
            refine g_irem X (by first | omega | (unfold InR; omega)) (by unfold InR; omega) (by omega) (by omega) dL_reads_93 ?_
            have hv0 : 0 ≤ (y / (1 + k) + 7 * k) % f := Int.emod_nonneg _ (by omega)
            have hv1 : (y / (1 + k) + 7 * k) % f < f := Int.emod_lt_of_pos _ (by omega)
            obtain ⟨v, hv⟩ : ∃ v, v = (y / (1 + k) + 7 * k) % f := ⟨_, rfl⟩
            rw [← hv] at hv0 hv1 ⊢
            refine g_istore11 X dL_reads_94 (by decide) (by first | exact Or.inl rfl | exact Or.inr ⟨_, rfl, rfl⟩) ?_
            have J120 : ∀ (b : Int), (b = 0 ∨ (b = 1 ∧ k % (W + 1) ≠ W)) → WG E ad 15 σ1 120 [some (.ref (ad 0)), some (.ref (ad 79)), some (.ref (ad 80)), some (.ref (ad 81)), some (.int (iI y)), some (.int (iI R)), some (.int (iI W)), some (.int (iI 1)), some (.int (iI k)), some (.int (iI (k / (W + 1)))), some (.int (iI (k % (W + 1)))), some (.int (iI v)), u12, u13, u14] [.int (iI b)] := by
              intro b hbb
              refine g_istore12 X dL_reads_120 (by decide) (by first | exact Or.inl rfl | exact Or.inr ⟨_, rfl, rfl⟩) ?_
              have J172 : ∀ (σ2 : St), (RDS σ σ2 W k) → WG E ad 15 σ2 172 [some (.ref (ad 0)), some (.ref (ad 79)), some (.ref (ad 80)), some (.ref (ad 81)), some (.int (iI y)), some (.int (iI R)), some (.int (iI W)), some (.int (iI 1)), some (.int (iI k)), some (.int (iI (k / (W + 1)))), some (.int (iI (k % (W + 1)))), some (.int (iI v)), some (.int (iI b)), u13, u14] [] := by
                intro σ2 hs2
                have hb2 := hs2.b (by omega)
                have hC2 := hs2.1.ci hC (by omega)
                refine g_iconst X dL_reads_172 ?_
                refine g_goto (tgt := 177) X dL_reads_173 (by decide) ?_
                refine g_istore7 X dL_reads_177 (by decide) (by first | exact Or.inl rfl | exact Or.inr ⟨_, rfl, rfl⟩) ?_
                have J204 : ∀ (f2 : Int), ((f2 = 100 ∧ 100 ≤ v) ∨ (f2 = 10 ∧ 10 ≤ v ∧ v ≤ 99) ∨ (f2 = 1 ∧ v ≤ 9)) → WG E ad 15 σ2 204 [some (.ref (ad 0)), some (.ref (ad 79)), some (.ref (ad 80)), some (.ref (ad 81)), some (.int (iI y)), some (.int (iI R)), some (.int (iI W)), some (.int (iI 1)), some (.int (iI k)), some (.int (iI (k / (W + 1)))), some (.int (iI (k % (W + 1)))), some (.int (iI v)), some (.int (iI b)), u13, u14] [.int (iI f2)] := by
                  intro f2 hu
                  refine g_istore13 X dL_reads_204 (by decide) (by first | exact Or.inl rfl | exact Or.inr ⟨_, rfl, rfl⟩) ?_
                  have J279 : ∀ (σ4 : St) (x u : Int), (DGS σ2 σ4 x) → ((b = 0 ∧ x = v) ∨ (b = 1 ∧ x = -1)) → WG E ad 15 σ4 279 [some (.ref (ad 0)), some (.ref (ad 79)), some (.ref (ad 80)), some (.ref (ad 81)), some (.int (iI y)), some (.int (iI R)), some (.int (iI W)), some (.int (iI 1)), some (.int (iI k)), some (.int (iI (k / (W + 1)))), some (.int (iI (k % (W + 1)))), some (.int (iI v)), some (.int (iI b)), some (.int (iI f2)), some (.int (iI u))] [] := by
                    intro σ4 x u hd hx
                    refine g_iconst X dL_reads_279 ?_
                    refine g_goto (tgt := 284) X dL_reads_280 (by decide) ?_
                    refine g_istore7 X dL_reads_284 (by decide) (by first | exact Or.inl rfl | exact Or.inr ⟨_, rfl, rfl⟩) ?_
                    refine g_iload10 X dL_reads_286 ?_
                    refine g_iload6 X dL_reads_288 ?_
                    refine g_icmp_ne (tgt := 302) X (by first | exact hRL35 _ _ | exact hR19 _ _ | exact hR0 _ _ | assumption | (unfold InR; omega)) (by first | exact hRL35 _ _ | exact hR19 _ _ | exact hR0 _ _ | assumption | (unfold InR; omega)) dL_reads_290 (by decide) (fun h290 => ?_) (fun h290 => ?_)
                    · skip
                      refine g_aload2 X dL_reads_302 ?_
                      refine g_bipush X dL_reads_303 (by decide +kernel) ?_
                      refine g_iload9 X dL_reads_305 ?_
                      refine g_imul X dL_reads_307 ?_
                      refine g_iload10 X dL_reads_308 ?_
                      refine g_iadd X dL_reads_310 ?_
                      refine g_iload12 X dL_reads_311 ?_
                      refine g_if_eq (tgt := 320) X (by first | exact hRL35 _ _ | exact hR19 _ _ | exact hR0 _ _ | assumption | (unfold InR; omega)) dL_reads_313 (by decide) (fun h313 => ?_) (fun h313 => ?_)
                      · skip
                        refine g_iload11 X dL_reads_320 ?_
                        refine g_iast X (ia_80 (by omega)) (by first | exact hRL35 _ _ | exact hR19 _ _ | exact hR0 _ _ | assumption | (unfold InR; omega)) dL_reads_322 ?_
                        refine g_rg (fun hR322 => ?_)
                        refine g_iinc8 X dL_reads_323 (by decide) (by first | exact Or.inl rfl | exact Or.inr ⟨_, rfl, rfl⟩) ?_
                        refine g_goto (tgt := 35) X dL_reads_326 (by decide) ?_
                        refine ih35 _ _ _ _ _ _ _ _ (by omega) ?_ ?_
                        · omega
                        · first
                          | exact rd_put hW3 (by omega) hs2 (x := v) (by rw [show v = x by omega]; exact hd) (by omega) (fun _ => by omega) (Or.inl ⟨by omega, rfl⟩)
                          | exact rd_put hW3 (by omega) hs2 (x := v) (by rw [show v = x by omega]; exact hd) (by omega) (fun _ => by omega) (Or.inr ⟨by omega, rfl⟩)
                          | exact rd_put hW3 (by omega) hs2 (x := -1) (by rw [show (-1 : Int) = x by omega]; exact hd) (by omega) (fun _ => by omega) (Or.inr ⟨by omega, rfl⟩)
                      · skip
                        refine g_iconst X dL_reads_316 ?_
                        refine g_goto (tgt := 322) X dL_reads_317 (by decide) ?_
                        refine g_iast X (ia_80 (by omega)) (by first | exact hRL35 _ _ | exact hR19 _ _ | exact hR0 _ _ | assumption | (unfold InR; omega)) dL_reads_322 ?_
                        refine g_rg (fun hR322 => ?_)
                        refine g_iinc8 X dL_reads_323 (by decide) (by first | exact Or.inl rfl | exact Or.inr ⟨_, rfl, rfl⟩) ?_
                        refine g_goto (tgt := 35) X dL_reads_326 (by decide) ?_
                        refine ih35 _ _ _ _ _ _ _ _ (by omega) ?_ ?_
                        · omega
                        · first
                          | exact rd_put hW3 (by omega) hs2 (x := v) (by rw [show v = x by omega]; exact hd) (by omega) (fun _ => by omega) (Or.inl ⟨by omega, rfl⟩)
                          | exact rd_put hW3 (by omega) hs2 (x := v) (by rw [show v = x by omega]; exact hd) (by omega) (fun _ => by omega) (Or.inr ⟨by omega, rfl⟩)
                          | exact rd_put hW3 (by omega) hs2 (x := -1) (by rw [show (-1 : Int) = x by omega]; exact hd) (by omega) (fun _ => by omega) (Or.inr ⟨by omega, rfl⟩)
                    · skip
                      refine g_aload3 X dL_reads_293 ?_
                      refine g_iload9 X dL_reads_294 ?_
                      refine g_iload11 X dL_reads_296 ?_
                      refine g_iast X (ia_81 (by omega)) (by first | exact hRL35 _ _ | exact hR19 _ _ | exact hR0 _ _ | assumption | (unfold InR; omega)) dL_reads_298 ?_
                      refine g_rg (fun hR298 => ?_)
                      refine g_goto (tgt := 323) X dL_reads_299 (by decide) ?_
                      refine g_iinc8 X dL_reads_323 (by decide) (by first | exact Or.inl rfl | exact Or.inr ⟨_, rfl, rfl⟩) ?_
                      refine g_goto (tgt := 35) X dL_reads_326 (by decide) ?_
                      refine ih35 _ _ _ _ _ _ _ _ (by omega) ?_ ?_
                      · omega
                      · first
                        | exact rd_put hW3 (by omega) hs2 (x := v) (by rw [show v = x by omega]; exact hd) (by omega) (fun _ => by omega) (Or.inl ⟨by omega, rfl⟩)
                        | exact rd_put hW3 (by omega) hs2 (x := v) (by rw [show v = x by omega]; exact hd) (by omega) (fun _ => by omega) (Or.inr ⟨by omega, rfl⟩)
                        | exact rd_put hW3 (by omega) hs2 (x := -1) (by rw [show (-1 : Int) = x by omega]; exact hd) (by omega) (fun _ => by omega) (Or.inr ⟨by omega, rfl⟩)
                  refine g_iload13 X dL_reads_206 ?_
                  refine g_istore14 X dL_reads_208 (by decide) (by first | exact Or.inl rfl | exact Or.inr ⟨_, rfl, rfl⟩) ?_
                  have L210 : ∀ (n210 : Nat) (u : Int) (σ3 : St), u.toNat < n210 → (DGI σ2 σ3 v u) → (b = 0 ∨ σ3 = σ2) → WG E ad 15 σ3 210 [some (.ref (ad 0)), some (.ref (ad 79)), some (.ref (ad 80)), some (.ref (ad 81)), some (.int (iI y)), some (.int (iI R)), some (.int (iI W)), some (.int (iI 1)), some (.int (iI k)), some (.int (iI (k / (W + 1)))), some (.int (iI (k % (W + 1)))), some (.int (iI v)), some (.int (iI b)), some (.int (iI f2)), some (.int (iI u))] [] := by
                    intro n210
                    induction n210 with
                    | zero => intro u σ3 hn; exact absurd hn (Nat.not_lt_zero _)
                    | succ n210 ih210 =>
                      intro u σ3 hn210 hD hB
                      refine g_rg (fun hRL210 => ?_)
                      have hDb := hD.b
                      have hF3 : FRM σ σ3 := ⟨fun q j a b c d => (hD.1.1 q j a b).trans (hs2.1.1 q j a b c d), hD.1.2.2⟩
                      have hC3 := hF3.ci hC (by omega)
                      refine g_iload14 X dL_reads_210 ?_
                      refine g_if_le (tgt := 260) X (by first | exact hRL210 _ _ | exact hRL35 _ _ | exact hR19 _ _ | exact hR0 _ _ | assumption | (unfold InR; omega)) dL_reads_212 (by decide) (fun h212 => ?_) (fun h212 => ?_)
                      · skip
                        refine g_iload7 X dL_reads_260 ?_
                        refine g_if_eq (tgt := 283) X (by first | exact hRL210 _ _ | exact hRL35 _ _ | exact hR19 _ _ | exact hR0 _ _ | assumption | (unfold InR; omega)) dL_reads_262 (by decide) (fun h262 => ?_) (fun h262 => ?_)
                        · skip
                          exact absurd h262 (by decide) -- CLOSED
                        · skip
                          refine g_iload12 X dL_reads_265 ?_
                          refine g_if_eq (tgt := 279) X (by first | exact hRL210 _ _ | exact hRL35 _ _ | exact hR19 _ _ | exact hR0 _ _ | assumption | (unfold InR; omega)) dL_reads_267 (by decide) (fun h267 => ?_) (fun h267 => ?_)
                          · skip
                            have hdA : DGS σ2 σ3 v := hD.e (by omega)
                            have hxA : (b = 0 ∧ v = v) ∨ (b = 1 ∧ v = -1) := Or.inl ⟨h267, rfl⟩
                            exact J279 _ _ _ hdA hxA
                          · skip
                            have h32 : σ3 = σ2 := by
                              rcases hB with g | g
                              · exact absurd g h267
                              · exact g
                            refine g_aload0 X dL_reads_270 ?_
                            refine g_bipush X dL_reads_271 (by decide +kernel) ?_
                            refine g_X1 X (k_X6_type E hC3 (by unfold InR; omega)) gL_reads_X6_type rfl (by decide +kernel) (by decide) ob_0 (Nat.le_of_ble_eq_true rfl) dL_reads_273 (fun z273 σ273 hz273 hp273 => ?_)
                            refine g_rg (fun hR273 => ?_)
                            rw [if_pos (show 32 ≤ (120 : Int) ∧ (120 : Int) ≤ 126 by omega), if_pos (show σ3 8 0 < 80 by omega), if_pos (show (32 ≤ (120 : Int) ∧ (120 : Int) ≤ 126) ∧ σ3 8 0 < 80 by omega)] at hp273
                            obtain ⟨e273, s273⟩ := hp273
                            have hdA : DGS σ2 σ273 (-1) := by rw [s273, h32]; exact DGS.x hs2.1.2
                            have hxA : (b = 0 ∧ (-1 : Int) = v) ∨ (b = 1 ∧ (-1 : Int) = -1) := Or.inr ⟨by omega, rfl⟩
                            refine g_if_le (tgt := 283) X (by first | exact hR273 _ _ | exact hRL210 _ _ | exact hRL35 _ _ | exact hR19 _ _ | exact hR0 _ _ | assumption | (unfold InR; omega)) dL_reads_276 (by decide) (fun h276 => ?_) (fun h276 => ?_)
                            · skip
                              exfalso
                              omega -- CLOSED
                            · skip
                              exact J279 _ _ _ hdA hxA
                      · skip
                        refine g_iload12 X dL_reads_215 ?_
                        refine g_if_ne (tgt := 260) X (by first | exact hRL210 _ _ | exact hRL35 _ _ | exact hR19 _ _ | exact hR0 _ _ | assumption | (unfold InR; omega)) dL_reads_217 (by decide) (fun h217 => ?_) (fun h217 => ?_)
                        · skip
                          refine g_iload7 X dL_reads_260 ?_
                          refine g_if_eq (tgt := 283) X (by first | exact hRL210 _ _ | exact hRL35 _ _ | exact hR19 _ _ | exact hR0 _ _ | assumption | (unfold InR; omega)) dL_reads_262 (by decide) (fun h262 => ?_) (fun h262 => ?_)
                          · skip
                            exact absurd h262 (by decide) -- CLOSED
                          · skip
                            refine g_iload12 X dL_reads_265 ?_
                            refine g_if_eq (tgt := 279) X (by first | exact hRL210 _ _ | exact hRL35 _ _ | exact hR19 _ _ | exact hR0 _ _ | assumption | (unfold InR; omega)) dL_reads_267 (by decide) (fun h267 => ?_) (fun h267 => ?_)
                            · skip
                              have hdA : DGS σ2 σ3 v := hD.e (by omega)
                              have hxA : (b = 0 ∧ v = v) ∨ (b = 1 ∧ v = -1) := Or.inl ⟨h267, rfl⟩
                              exact J279 _ _ _ hdA hxA
                            · skip
                              have h32 : σ3 = σ2 := by
                                rcases hB with g | g
                                · exact absurd g h267
                                · exact g
                              refine g_aload0 X dL_reads_270 ?_
                              refine g_bipush X dL_reads_271 (by decide +kernel) ?_
                              refine g_X1 X (k_X6_type E hC3 (by unfold InR; omega)) gL_reads_X6_type rfl (by decide +kernel) (by decide) ob_0 (Nat.le_of_ble_eq_true rfl) dL_reads_273 (fun z273 σ273 hz273 hp273 => ?_)
                              refine g_rg (fun hR273 => ?_)
                              rw [if_pos (show 32 ≤ (120 : Int) ∧ (120 : Int) ≤ 126 by omega), if_pos (show σ3 8 0 < 80 by omega), if_pos (show (32 ≤ (120 : Int) ∧ (120 : Int) ≤ 126) ∧ σ3 8 0 < 80 by omega)] at hp273
                              obtain ⟨e273, s273⟩ := hp273
                              have hdA : DGS σ2 σ273 (-1) := by rw [s273, h32]; exact DGS.x hs2.1.2
                              have hxA : (b = 0 ∧ (-1 : Int) = v) ∨ (b = 1 ∧ (-1 : Int) = -1) := Or.inr ⟨by omega, rfl⟩
                              refine g_if_le (tgt := 283) X (by first | exact hR273 _ _ | exact hRL210 _ _ | exact hRL35 _ _ | exact hR19 _ _ | exact hR0 _ _ | assumption | (unfold InR; omega)) dL_reads_276 (by decide) (fun h276 => ?_) (fun h276 => ?_)
                              · skip
                                exfalso
                                omega -- CLOSED
                              · skip
                                exact J279 _ _ _ hdA hxA
                        · skip
                          refine g_iload7 X dL_reads_220 ?_
                          refine g_if_eq (tgt := 247) X (by first | exact hRL210 _ _ | exact hRL35 _ _ | exact hR19 _ _ | exact hR0 _ _ | assumption | (unfold InR; omega)) dL_reads_222 (by decide) (fun h222 => ?_) (fun h222 => ?_)
                          · skip
                            exact absurd h222 (by decide) -- CLOSED
                          · skip
                            refine g_aload0 X dL_reads_225 ?_
                            refine g_bipush X dL_reads_226 (by decide +kernel) ?_
                            have hq0 : 0 ≤ v / u := Int.ediv_nonneg (by omega) (by omega)
                            have hq1 : v / u ≤ v := Int.ediv_le_self _ (by omega)
                            refine g_iload11 X dL_reads_228 ?_
                            refine g_iload14 X dL_reads_230 ?_
                            refine g_idiv X (by first | omega | (unfold InR; omega)) (by unfold InR; omega) (by omega) (by omega) dL_reads_232 ?_
                            refine g_bipush X dL_reads_233 (by decide +kernel) ?_
                            refine g_irem X (by first | omega | (unfold InR; omega)) (by unfold InR; omega) (by omega) (by omega) dL_reads_235 ?_
                            refine g_iadd X dL_reads_236 ?_
                            refine g_X1 X (k_X6_type E hC3 (by unfold InR; omega)) gL_reads_X6_type rfl (by decide +kernel) (by decide) ob_0 (Nat.le_of_ble_eq_true rfl) dL_reads_237 (fun z237 σ237 hz237 hp237 => ?_)
                            refine g_rg (fun hR237 => ?_)
                            rw [if_pos (show 32 ≤ (48 + v / u % 10) ∧ (48 + v / u % 10) ≤ 126 by omega), if_pos (show σ3 8 0 < 80 by omega), if_pos (show (32 ≤ (48 + v / u % 10) ∧ (48 + v / u % 10) ≤ 126) ∧ σ3 8 0 < 80 by omega)] at hp237
                            obtain ⟨e237, s237⟩ := hp237
                            refine g_if_le (tgt := 247) X (by first | exact hR237 _ _ | exact hRL210 _ _ | exact hRL35 _ _ | exact hR19 _ _ | exact hR0 _ _ | assumption | (unfold InR; omega)) dL_reads_240 (by decide) (fun h240 => ?_) (fun h240 => ?_)
                            · skip
                              exfalso
                              omega -- CLOSED
                            · skip
                              refine g_iconst X dL_reads_243 ?_
                              refine g_goto (tgt := 248) X dL_reads_244 (by decide) ?_
                              refine g_istore7 X dL_reads_248 (by decide) (by first | exact Or.inl rfl | exact Or.inr ⟨_, rfl, rfl⟩) ?_
                              refine g_iload14 X dL_reads_250 ?_
                              refine g_bipush X dL_reads_252 (by decide +kernel) ?_
                              refine g_idiv X (by first | omega | (unfold InR; omega)) (by unfold InR; omega) (by omega) (by omega) dL_reads_254 ?_
                              refine g_istore14 X dL_reads_255 (by decide) (by first | exact Or.inl rfl | exact Or.inr ⟨_, rfl, rfl⟩) ?_
                              refine g_goto (tgt := 210) X dL_reads_257 (by decide) ?_
                              refine ih210 _ _ (by omega) ?_ ?_
                              · rw [s237]; exact hD.s (by omega) (by omega)
                              · exact Or.inl (by omega)
                  refine L210 _ _ _ (Nat.lt_succ_self _) ?_ ?_
                  · refine ⟨⟨fun _ _ _ _ => rfl, fun _ _ => rfl, hs2.1.2⟩, ?_⟩
                    rcases hu with ⟨e1, e2⟩ | ⟨e1, e2⟩ | ⟨e1, e2⟩
                    · exact Or.inl ⟨e1, e2, rfl⟩
                    · exact Or.inr (Or.inr (Or.inl ⟨e1, e2, rfl⟩))
                    · exact Or.inr (Or.inr (Or.inr (Or.inr (Or.inr (Or.inl ⟨e1, e2, rfl⟩)))))
                  · exact Or.inr rfl
                refine g_iload11 X dL_reads_179 ?_
                refine g_bipush X dL_reads_181 (by decide +kernel) ?_
                refine g_icmp_le (tgt := 191) X (by first | exact hRL35 _ _ | exact hR19 _ _ | exact hR0 _ _ | assumption | (unfold InR; omega)) (by first | exact hRL35 _ _ | exact hR19 _ _ | exact hR0 _ _ | assumption | (unfold InR; omega)) dL_reads_183 (by decide) (fun h183 => ?_) (fun h183 => ?_)
                · skip
                  refine g_iload11 X dL_reads_191 ?_
                  refine g_bipush X dL_reads_193 (by decide +kernel) ?_
                  refine g_icmp_le (tgt := 203) X (by first | exact hRL35 _ _ | exact hR19 _ _ | exact hR0 _ _ | assumption | (unfold InR; omega)) (by first | exact hRL35 _ _ | exact hR19 _ _ | exact hR0 _ _ | assumption | (unfold InR; omega)) dL_reads_195 (by decide) (fun h195 => ?_) (fun h195 => ?_)
                  · skip
                    refine g_iconst X dL_reads_203 ?_
                    exact J204 _ (by omega)
                  · skip
                    refine g_bipush X dL_reads_198 (by decide +kernel) ?_
                    refine g_goto (tgt := 204) X dL_reads_200 (by decide) ?_
                    exact J204 _ (by omega)
                · skip
                  refine g_bipush X dL_reads_186 (by decide +kernel) ?_
                  refine g_goto (tgt := 204) X dL_reads_188 (by decide) ?_
                  exact J204 _ (by omega)
              refine g_iload7 X dL_reads_122 ?_
              refine g_if_eq (tgt := 176) X (by first | exact hRL35 _ _ | exact hR19 _ _ | exact hR0 _ _ | assumption | (unfold InR; omega)) dL_reads_124 (by decide) (fun h124 => ?_) (fun h124 => ?_)
              · skip
                exact absurd h124 (by decide) -- CLOSED
              · skip
                refine g_iload10 X dL_reads_127 ?_
                refine g_if_eq (tgt := 153) X (by first | exact hRL35 _ _ | exact hR19 _ _ | exact hR0 _ _ | assumption | (unfold InR; omega)) dL_reads_129 (by decide) (fun h129 => ?_) (fun h129 => ?_)
                · skip
                  refine g_iload10 X dL_reads_153 ?_
                  refine g_if_gt (tgt := 172) X (by unfold InR; omega) dL_reads_155 (by decide) (fun h => absurd h (by omega)) (fun _ => ?_)
                  refine g_iload9 X dL_reads_158 ?_
                  refine g_if_eq (tgt := 172) X (by first | exact hRL35 _ _ | exact hR19 _ _ | exact hR0 _ _ | assumption | (unfold InR; omega)) dL_reads_160 (by decide) (fun h160 => ?_) (fun h160 => ?_)
                  · skip
                    have hk00 : k = 0 := dm_inj hW3 (by rw [Int.zero_ediv]; exact h160) (by rw [Int.zero_emod]; exact h129)
                    have hsA : RDS σ σ1 W k := by rw [hk00] at hi ⊢; exact hi.s0
                    exact J172 _ hsA
                  · skip
                    have hk0 : 0 < k := by
                      have g : k ≠ 0 := fun g => h160 (by rw [g]; exact Int.zero_ediv _)
                      omega
                    refine g_aload0 X dL_reads_163 ?_
                    refine g_bipush X dL_reads_164 (by decide +kernel) ?_
                    refine g_X1 X (k_X6_type E hC1 (by unfold InR; omega)) gL_reads_X6_type rfl (by decide +kernel) (by decide) ob_0 (Nat.le_of_ble_eq_true rfl) dL_reads_166 (fun z166 σ166 hz166 hp166 => ?_)
                    refine g_rg (fun hR166 => ?_)
                    rw [if_pos (show 32 ≤ (59 : Int) ∧ (59 : Int) ≤ 126 by omega), if_pos (show σ1 8 0 < 80 by omega), if_pos (show (32 ≤ (59 : Int) ∧ (59 : Int) ≤ 126) ∧ σ1 8 0 < 80 by omega)] at hp166
                    obtain ⟨e166, s166⟩ := hp166
                    have hsA : RDS σ σ166 W k := by rw [s166]; exact hi.sep hk0 (by unfold sepc; rw [if_neg (by omega), if_pos h129]) (by omega)
                    refine g_if_le (tgt := 176) X (by first | exact hR166 _ _ | exact hRL35 _ _ | exact hR19 _ _ | exact hR0 _ _ | assumption | (unfold InR; omega)) dL_reads_169 (by decide) (fun h169 => ?_) (fun h169 => ?_)
                    · skip
                      exfalso
                      omega -- CLOSED
                    · skip
                      exact J172 _ hsA
                · skip
                  have J147 : ∀ (f : Int), (f = sepc W k) → WG E ad 15 σ1 147 [some (.ref (ad 0)), some (.ref (ad 79)), some (.ref (ad 80)), some (.ref (ad 81)), some (.int (iI y)), some (.int (iI R)), some (.int (iI W)), some (.int (iI 1)), some (.int (iI k)), some (.int (iI (k / (W + 1)))), some (.int (iI (k % (W + 1)))), some (.int (iI v)), some (.int (iI b)), u13, u14] [.int (iI f), .ref (ad 0)] := by
                    intro f hf2
                    have hfv := sepc_v W k
                    have hk0 : 0 < k := by
                      have g : k ≠ 0 := fun g => h129 (by rw [g]; exact Int.zero_emod _)
                      omega
                    refine g_X1 X (k_X6_type E hC1 (by unfold InR; omega)) gL_reads_X6_type rfl (by decide +kernel) (by decide) ob_0 (Nat.le_of_ble_eq_true rfl) dL_reads_147 (fun z147 σ147 hz147 hp147 => ?_)
                    refine g_rg (fun hR147 => ?_)
                    rw [if_pos (show 32 ≤ f ∧ f ≤ 126 by omega), if_pos (show σ1 8 0 < 80 by omega), if_pos (show (32 ≤ f ∧ f ≤ 126) ∧ σ1 8 0 < 80 by omega)] at hp147
                    obtain ⟨e147, s147⟩ := hp147
                    have hsA : RDS σ σ147 W k := by rw [s147]; exact hi.sep hk0 hf2 (by omega)
                    refine g_if_le (tgt := 176) X (by first | exact hR147 _ _ | exact hRL35 _ _ | exact hR19 _ _ | exact hR0 _ _ | assumption | (unfold InR; omega)) dL_reads_150 (by decide) (fun h150 => ?_) (fun h150 => ?_)
                    · skip
                      exfalso
                      omega -- CLOSED
                    · skip
                      refine g_iload10 X dL_reads_153 ?_
                      exact g_if_gt (tgt := 172) X (by unfold InR; omega) dL_reads_155 (by decide) (fun _ => J172 _ hsA) (fun h => absurd h (by omega))
                  have hk0 : 0 < k := by
                    have g : k ≠ 0 := fun g => h129 (by rw [g]; exact Int.zero_emod _)
                    omega
                  refine g_aload0 X dL_reads_132 ?_
                  refine g_iload10 X dL_reads_133 ?_
                  refine g_iload6 X dL_reads_135 ?_
                  refine g_icmp_ne (tgt := 145) X (by first | exact hRL35 _ _ | exact hR19 _ _ | exact hR0 _ _ | assumption | (unfold InR; omega)) (by first | exact hRL35 _ _ | exact hR19 _ _ | exact hR0 _ _ | assumption | (unfold InR; omega)) dL_reads_137 (by decide) (fun h137 => ?_) (fun h137 => ?_)
                  · skip
                    refine g_bipush X dL_reads_145 (by decide +kernel) ?_
                    exact J147 _ (by unfold sepc; first | rw [if_pos (by omega)] | rw [if_neg (by omega), if_neg (by omega)])
                  · skip
                    refine g_bipush X dL_reads_140 (by decide +kernel) ?_
                    refine g_goto (tgt := 147) X dL_reads_142 (by decide) ?_
                    exact J147 _ (by unfold sepc; first | rw [if_pos (by omega)] | rw [if_neg (by omega), if_neg (by omega)])
            refine g_iload10 X dL_reads_96 ?_
            refine g_iload6 X dL_reads_98 ?_
            refine g_icmp_ge (tgt := 119) X (by first | exact hRL35 _ _ | exact hR19 _ _ | exact hR0 _ _ | assumption | (unfold InR; omega)) (by first | exact hRL35 _ _ | exact hR19 _ _ | exact hR0 _ _ | assumption | (unfold InR; omega)) dL_reads_100 (by decide) (fun h100 => ?_) (fun h100 => ?_)
            · skip
              refine g_iconst X dL_reads_119 ?_
              exact J120 _ (by omega)
            · skip
              have hy2 : 0 ≤ y / (3 + k) := Int.ediv_nonneg (by omega) (by omega)
              have hy3 : y / (3 + k) ≤ y := Int.ediv_le_self _ (by omega)
              refine g_iload4 X dL_reads_103 ?_
              refine g_iconst X dL_reads_105 ?_
              refine g_iload8 X dL_reads_106 ?_
              refine g_iadd X dL_reads_108 ?_
              refine g_idiv X (by first | omega | (unfold InR; omega)) (by unfold InR; omega) (by omega) (by omega) dL_reads_109 ?_
              refine g_iconst X dL_reads_110 ?_
              refine g_irem X (by first | omega | (unfold InR; omega)) (by unfold InR; omega) (by omega) (by omega) dL_reads_111 ?_
              refine g_if_ne (tgt := 119) X (by first | exact hRL35 _ _ | exact hR19 _ _ | exact hR0 _ _ | assumption | (unfold InR; omega)) dL_reads_112 (by decide) (fun h112 => ?_) (fun h112 => ?_)
              · skip
                refine g_iconst X dL_reads_119 ?_
                exact J120 _ (by omega)
              · skip
                refine g_iconst X dL_reads_115 ?_
                refine g_goto (tgt := 120) X dL_reads_116 (by decide) ?_
                exact J120 _ (by omega)
          refine g_iload4 X dL_reads_78 ?_
          refine g_iconst X dL_reads_80 ?_
          refine g_irem X (by first | omega | (unfold InR; omega)) (by unfold InR; omega) (by omega) (by omega) dL_reads_81 ?_
          refine g_if_ne (tgt := 91) X (by first | exact hRL35 _ _ | exact hR19 _ _ | exact hR0 _ _ | assumption | (unfold InR; omega)) dL_reads_82 (by decide) (fun h82 => ?_) (fun h82 => ?_)
          · skip
            refine g_bipush X dL_reads_91 (by decide +kernel) ?_
            exact J93 _ (by omega)
          · skip
            refine g_sipush X dL_reads_85 (by decide +kernel) ?_
            refine g_goto (tgt := 93) X dL_reads_88 (by decide) ?_
            exact J93 _ (by omega)
    refine L35 _ _ _ _ _ _ _ _ _ (Nat.lt_succ_self _) ?_ ?_
    · omega
    · exact rd_0 h80 hC.2.2.2

