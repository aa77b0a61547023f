/-! MY CONTRACTS: the whole text -/
theorem ro_w {T : Int → Int} {len r w w' p : Int} (h : r = 0 ∨ w = w') : roP T len r w p = roP T len r w' p ∧ roR T len r w p = roR T len r w' p ∧ roN T len r w p = roN T len r w' p ∧ rqR T len r w p = rqR T len r w' p ∧ rqP T len r w p = rqP T len r w' p ∧ rsP T len r w p = rsP T len r w' p := by
  rcases h with rfl | rfl
  · unfold roP roR roN rqR rqP rsP rsR rMo rFi
    simp
  · exact ⟨rfl, rfl, rfl, rfl, rfl, rfl⟩
/-- a row without a fault -/
theorem ro_0 {T : Int → Int} {len r w p : Int} (h : roR T len r w p = 0) : rqR T len r w p = 0 ∧ rqP T len r w p = rsP T len r w p ∧ (r = 0 ∨ roN T len r w p = w) := by
  rw [roR_q] at h
  by_cases c0 : rqR T len r w p ≠ 0
  · rw [if_pos c0] at h; exact absurd h c0
  · have c1 : rqR T len r w p = 0 := by omega
    refine ⟨c1, ?_, ?_⟩
    · unfold rqR at c1
      unfold rqP
      by_cases c2 : (esR T len (rMo r w) p).2.2 ≠ 0
      · rw [if_pos c2] at c1; exact absurd c1 c2
      · rw [if_neg c2]
    · unfold rqR at c1
      by_cases c2 : (esR T len (rMo r w) p).2.2 ≠ 0
      · rw [if_pos c2] at c1; exact absurd c1 c2
      · rw [if_neg c2] at c1
        unfold rsR stR at c1
        by_cases c3 : isAc T len (esR T len (rMo r w) p).2.1 47
        · rw [if_pos c3] at c1
          unfold rFi at c1
          by_cases c4 : r = 0 ∨ (esR T len (rMo r w) p).1 = w
          · rcases c4 with c4 | c4
            · exact Or.inl c4
            · exact Or.inr c4
          · rw [if_neg c4, if_pos rfl] at c1; omega
        · rw [if_neg c3] at c1; omega
def RD (T : Int → Int) (len : Int) (σ1 : St) (r : Int) : Prop := (∀ w j, 0 ≤ w → w < r → 0 ≤ j → j < wiS T len → σ1 (TR 5 w) j = txC T len w j) ∧ ∀ w, 0 ≤ w → w < r → σ1 (TI 5) w = txD T len w
def RI (T : Int → Int) (len : Int) (σ1 : St) (r b : Int) : Prop := (b = 0 ∧ r < 7 ∧ σ1 10 1 = 0 ∧ rwG T len (7 - r).toNat r (σ1 10 0) (if r = 0 then 7 else wiS T len) = rwR T len ∧ σ1 10 0 = rpS T len r ∧ (r ≠ 0 → σ1 (TB 5) 1 = wiS T len) ∧ RD T len σ1 r) ∨
  (b = 1 ∧ ∃ n W, rwR T len = (n, σ1 10 0, σ1 10 1, W) ∧ (σ1 10 1 = 0 → W = wiS T len ∧ σ1 (TB 5) 0 = n ∧ 1 ≤ n ∧ n ≤ 7 ∧ σ1 (TB 5) 1 = wiS T len ∧ RD T len σ1 n))
def RF (σ σ1 : St) : Prop := ∀ q k, q ≠ 10 → ¬ (61 ≤ q ∧ q ≤ 70) → σ1 q k = σ q k
set_option maxHeartbeats 4000000 in
set_option maxRecDepth 100000 in
theorem k_X3_readText (E0 : EV) {ad : Int → Nat} {σ : St} (hTX : TXK σ) (hT50 : TOK σ 5) : MGE E0 yX3_readText wsX3_readText 5 109 ad σ [.ref (ad 10)] (PV (fun σ' => σ' 10 0 = (rwR (σ 9) (σ 8 0)).2.1 ∧ σ' 10 1 = (rwR (σ 9) (σ 8 0)).2.2.1 ∧ TOK σ' 5 ∧ RF σ σ' ∧ ((rwR (σ 9) (σ 8 0)).2.2.1 = 0 → (rwR (σ 9) (σ 8 0)).2.2.2 = wiS (σ 9) (σ 8 0) ∧ σ' (TB 5) 0 = (rwR (σ 9) (σ 8 0)).1 ∧ 1 ≤ (rwR (σ 9) (σ 8 0)).1 ∧ (rwR (σ 9) (σ 8 0)).1 ≤ 7 ∧ σ' (TB 5) 1 = wiS (σ 9) (σ 8 0) ∧ RD (σ 9) (σ 8 0) σ' (rwR (σ 9) (σ 8 0)).1))) := by
  refine MGE.of (cc := cX3_readText) (maxL := 3) (ret := none) (own := RX3) [some (.ref (ad 10)), none, none] (by decide +kernel) rfl rfl (Nat.le_of_ble_eq_true rfl) rfl rfl (fun E X hr => ?_)
  have i3 : ∀ w ∈ wsX30, w ∈ wsX3_readText := by decide +kernel
  have i4 : ∀ w ∈ wsX40, w ∈ wsX3_readText := by decide +kernel
  have i5 : ∀ w ∈ wsX50, w ∈ wsX3_readText := by decide +kernel
  refine g_rg (fun hR0 => ?_)
  have h8 := hTX.1
  refine g_aload0 X dX3_readText_0 ?_
  refine g_iconst X dX3_readText_1 ?_
  refine gp_3_place X i3 (by decide +kernel) (by first | exact hR0 _ _ | assumption | (unfold InR; omega)) dX3_readText_2 ?_
  refine g_rg (fun hR2 => ?_)
  refine g_aload0 X dX3_readText_5 ?_
  refine g_iconst X dX3_readText_6 ?_
  refine gp_3_reason X i3 (by decide +kernel) (by first | exact hR2 _ _ | exact hR0 _ _ | assumption | (unfold InR; omega)) dX3_readText_7 ?_
  refine g_rg (fun hR7 => ?_)
  refine g_iconst X dX3_readText_10 ?_
  refine g_istore1 X dX3_readText_11 (by decide) (by first | exact Or.inl rfl | exact Or.inr ⟨_, rfl, rfl⟩) ?_
  refine g_iconst X dX3_readText_12 ?_
  refine g_istore2 X dX3_readText_13 (by decide) (by first | exact Or.inl rfl | exact Or.inr ⟨_, rfl, rfl⟩) ?_
  have L14 : ∀ (n14 : Nat) (r b : Int) (σ1 : St), (8 - r).toNat < n14 → (0 ≤ r ∧ r ≤ 7) → (RF σ σ1) → (TOK σ1 5) → (0 ≤ σ1 10 0 ∧ σ1 10 0 ≤ σ 8 0) → (b = 0 ∨ b = 1) → (RI (σ 9) (σ 8 0) σ1 r b) → WG E ad 3 σ1 14 [some (.ref (ad 10)), some (.int (iI b)), some (.int (iI r))] [] := by
    intro n14
    induction n14 with
    | zero => intro r b σ1 hn; exact absurd hn (Nat.not_lt_zero _)
    | succ n14 ih14 =>
      intro r b σ1 hn14 hr7b hF hT5 hp1 hb01 hRI
      refine g_rg (fun hRL14 => ?_)
      refine g_iload2 X dX3_readText_14 ?_
      refine g_bipush X dX3_readText_15 (by decide +kernel) ?_
      refine g_icmp_ge (tgt := 108) X (by first | exact hRL14 _ _ | exact hR7 _ _ | exact hR2 _ _ | exact hR0 _ _ | assumption | (unfold InR; omega)) (by first | exact hRL14 _ _ | exact hR7 _ _ | exact hR2 _ _ | exact hR0 _ _ | assumption | (unfold InR; omega)) dX3_readText_17 (by decide) (fun h17 => ?_) (fun h17 => ?_)
      · skip
        exact g_vret X hr (by
    rcases hRI with ⟨hb0, hr6, -⟩ | ⟨hb1, n, W, hR, hD⟩
    · exfalso; omega
    · rw [hR]
      exact ⟨rfl, rfl, hT5, hF, hD⟩) dX3_readText_108
      · skip
        refine g_iload1 X dX3_readText_20 ?_
        refine g_if_ne (tgt := 108) X (by first | exact hRL14 _ _ | exact hR7 _ _ | exact hR2 _ _ | exact hR0 _ _ | assumption | (unfold InR; omega)) dX3_readText_21 (by decide) (fun h21 => ?_) (fun h21 => ?_)
        · skip
          exact g_vret X hr (by
    rcases hRI with ⟨hb0, hr6, -⟩ | ⟨hb1, n, W, hR, hD⟩
    · exfalso; omega
    · rw [hR]
      exact ⟨rfl, rfl, hT5, hF, hD⟩) dX3_readText_108
        · skip
          have hb0 : b = 0 := by omega
          rcases hRI with ⟨-, hr6, he1, hg, hpl, hwi, hRD⟩ | ⟨hb1, -⟩
          rotate_left
          · exfalso
            omega
          have e8 : σ1 8 0 = σ 8 0 := hF _ _ (by omega) (by omega)
          have e9 : σ1 9 = σ 9 := funext fun k => hF _ _ (by omega) (by omega)
          have hTX1 := hTX.of e8 (fun k => congrFun e9 k)
          have hwb := wiS_b (T := σ 9) (len := σ 8 0) h8.1
          have hw0 : r = 0 ∨ (1 ≤ σ1 (TB 5) 1 ∧ σ1 (TB 5) 1 ≤ 7) := by
            by_cases h : r = 0
            · exact Or.inl h
            · right; rw [hwi h]; exact hwb
          generalize hW : (if r = 0 then 7 else wiS (σ 9) (σ 8 0)) = W at hg
          have hWb : 1 ≤ W ∧ W ≤ 7 := by
            rw [← hW]; by_cases h : r = 0
            · rw [if_pos h]; omega
            · rw [if_neg h]; omega
          have hWw : r = 0 ∨ σ1 (TB 5) 1 = W := by
            by_cases h : r = 0
            · exact Or.inl h
            · right; rw [hwi h, ← hW, if_neg h]
          refine g_aload0 X dX3_readText_24 ?_
          refine g_iload2 X dX3_readText_25 ?_
          refine g_V1 X (k_X3_readRow E hTX1 (by omega) (by omega) (by omega) hw0) gX3_readText_X3_readRow rfl (by decide +kernel) (by decide) ob_10 (Nat.le_of_ble_eq_true rfl) dX3_readText_26 (fun σ26 hp26 => ?_)
          refine g_rg (fun hR26 => ?_)
          obtain ⟨s1, s2, s3, s4, s5, s6, s7⟩ := hp26
          rw [e8, e9] at s1 s2 s3 s4 s5 s6 s7
          obtain ⟨v1, v2, v3, v4, v5, v6⟩ := ro_w (T := σ 9) (len := σ 8 0) (p := σ1 10 0) hWw
          rw [v1] at s1
          rw [v2] at s2
          rw [v3] at s4 s7
          rw [v4, v5] at s5
          rw [v4] at s6
          have hNb := roN_b (T := σ 9) (len := σ 8 0) (r := r) (w := W) (p := σ1 10 0) (Or.inr hWb.1) hp1.2
          have hPb := roP_b (T := σ 9) (len := σ 8 0) (r := r) (w := W) (p := σ1 10 0) (Or.inr hWb.1) hp1.2
          have hM7 : rMo r W ≤ 7 := by
            unfold rMo; by_cases h : r = 0
            · rw [if_pos h]; omega
            · rw [if_neg h]; omega
          have hT2 : TOK σ26 5 := by
            refine ⟨?_, ?_, fun v a1 a2 => ?_, fun v j a1 a2 a3 a4 => ?_⟩
            · rw [s7 (TB 5) 0 (by unfold TB; omega) (by unfold TB TR; omega) (by unfold TB TI; omega) (by omega)]; exact hT5.1
            · rw [s3]; unfold roW; by_cases h : r = 0
              · rw [if_pos h, v3]; omega
              · rw [if_neg h]; exact hT5.2.1
            · by_cases hv : v = r
              · rw [hv]; by_cases hq : rqR (σ 9) (σ 8 0) r W (σ1 10 0) = 0
                · rw [s5 hq]; exact nV_b
                · rw [s6 hq]; exact hT5.2.2.1 r (by omega) (by omega)
              · rw [s7 (TI 5) v (by unfold TI; omega) (by unfold TI TR; omega) (by omega) (by unfold TI TB; omega)]; exact hT5.2.2.1 v a1 a2
            · by_cases hv : v = r ∧ j < roN (σ 9) (σ 8 0) r W (σ1 10 0)
              · rw [hv.1, s4 j a3 hv.2]; exact enV_b
              · rw [s7 (TR 5 v) j (by unfold TR; omega) (by unfold TR; omega) (by unfold TI TR; omega) (by unfold TR TB; omega)]; exact hT5.2.2.2 v j a1 a2 a3 a4
          have hF2 : RF σ σ26 := fun q k a1 a2 => by
            rw [s7 q k (by omega) (by unfold TR; omega) (by unfold TI; omega) (by unfold TB; omega)]; exact hF q k a1 a2
          have hgs := (rwG_s (T := σ 9) (len := σ 8 0) (p := σ1 10 0) (w := W) hr6).symm.trans hg
          have hD2 : roR (σ 9) (σ 8 0) r W (σ1 10 0) = 0 → roW (σ 9) (σ 8 0) r W (σ1 10 0) = wiS (σ 9) (σ 8 0) ∧ σ26 (TB 5) 1 = wiS (σ 9) (σ 8 0) ∧ RD (σ 9) (σ 8 0) σ26 (r + 1) := fun h0 => by
            obtain ⟨z1, z2, z3⟩ := ro_0 h0
            have hN : roN (σ 9) (σ 8 0) r W (σ1 10 0) = wiS (σ 9) (σ 8 0) := by
              by_cases h : r = 0
              · have e0 : σ1 10 0 = 0 := by rw [hpl, h]; rfl
                have e1 : W = 7 := by rw [← hW, if_pos h]
                rw [e0, e1, h]; rfl
              · have e1 : W = wiS (σ 9) (σ 8 0) := by rw [← hW, if_neg h]
                rcases z3 with z3 | z3
                · exact absurd z3 h
                · rw [z3, e1]
            have hWo : roW (σ 9) (σ 8 0) r W (σ1 10 0) = wiS (σ 9) (σ 8 0) := by
              unfold roW; by_cases h : r = 0
              · rw [if_pos h, hN]
              · rw [if_neg h, ← hW, if_neg h]
            refine ⟨hWo, ?_, fun v j a1 a2 a3 a4 => ?_, fun v a1 a2 => ?_⟩
            · rw [s3]; unfold roW; by_cases h : r = 0
              · rw [if_pos h, v3, hN]
              · rw [if_neg h, hwi h]
            · by_cases hv : v = r
              · rw [hv, s4 j a3 (by omega), hpl]; rfl
              · rw [s7 (TR 5 v) j (by unfold TR; omega) (by unfold TR; omega) (by unfold TI TR; omega) (by unfold TR TB; omega)]; exact hRD.1 v j a1 (by omega) a3 a4
            · by_cases hv : v = r
              · rw [hv, s5 z1, z2]
                unfold txD
                rw [hW, hpl]
              · rw [s7 (TI 5) v (by unfold TI; omega) (by unfold TI TR; omega) (by omega) (by unfold TI TB; omega)]; exact hRD.2 v a1 (by omega)
          refine g_aload0 X dX3_readText_29 ?_
          refine gf_3_found X i3 (by decide +kernel) dX3_readText_30 ?_
          refine g_iload2 X dX3_readText_33 ?_
          refine g_iconst X dX3_readText_34 ?_
          refine g_iadd X dX3_readText_35 ?_
          refine gp_4_workers X (by omega) i4 (by decide +kernel) (by first | exact hR26 _ _ | exact hRL14 _ _ | exact hR7 _ _ | exact hR2 _ _ | exact hR0 _ _ | assumption | (unfold InR; omega)) dX3_readText_36 ?_
          refine g_rg (fun hR36 => ?_)
          generalize hσ3 : up σ26 (TB 5) 0 (r + 1) = σ3
          have k3 : ∀ q k, ¬ (q = TB 5 ∧ k = 0) → σ3 q k = σ26 q k := fun q k h => by rw [← hσ3]; unfold up; rw [if_neg h]
          have k0 : σ3 (TB 5) 0 = r + 1 := by rw [← hσ3]; unfold up; rw [if_pos ⟨rfl, rfl⟩]
          have kp : σ3 10 0 = roP (σ 9) (σ 8 0) r W (σ1 10 0) := by rw [k3 _ _ (by unfold TB; omega)]; exact s1
          have kr : σ3 10 1 = roR (σ 9) (σ 8 0) r W (σ1 10 0) := by rw [k3 _ _ (by unfold TB; omega)]; exact s2
          have hT3 : TOK σ3 5 := ⟨by rw [k0]; omega, by rw [k3 _ _ (by omega)]; exact hT2.2.1, fun v a1 a2 => by rw [k3 _ _ (by unfold TI TB; omega)]; exact hT2.2.2.1 v a1 a2, fun v j a1 a2 a3 a4 => by rw [k3 _ _ (by unfold TR TB; omega)]; exact hT2.2.2.2 v j a1 a2 a3 a4⟩
          have hF3 : RF σ σ3 := fun q k a1 a2 => by rw [k3 q k (by unfold TB; omega)]; exact hF2 q k a1 a2
          have e38 : σ3 8 0 = σ 8 0 := hF3 _ _ (by omega) (by omega)
          have e39 : σ3 9 = σ 9 := funext fun k => hF3 _ _ (by omega) (by omega)
          have hTX3 := hTX.of e38 (fun k => congrFun e39 k)
          have hD3 : roR (σ 9) (σ 8 0) r W (σ1 10 0) = 0 → roW (σ 9) (σ 8 0) r W (σ1 10 0) = wiS (σ 9) (σ 8 0) ∧ σ3 (TB 5) 1 = wiS (σ 9) (σ 8 0) ∧ RD (σ 9) (σ 8 0) σ3 (r + 1) := fun h0 => by
            obtain ⟨z1, z2, z3⟩ := hD2 h0
            exact ⟨z1, by rw [k3 _ _ (by omega)]; exact z2, fun v j a1 a2 a3 a4 => by rw [k3 _ _ (by unfold TR TB; omega)]; exact z3.1 v j a1 a2 a3 a4, fun v a1 a2 => by rw [k3 _ _ (by unfold TI TB; omega)]; exact z3.2 v a1 a2⟩
          refine g_rg (fun hR39 => ?_)
          have J65 : ∀ c : Int, (c = 1 ∧ (roR (σ 9) (σ 8 0) r W (σ1 10 0) ≠ 0 ∨ roP (σ 9) (σ 8 0) r W (σ1 10 0) = σ 8 0)) ∨ (c = 0 ∧ roR (σ 9) (σ 8 0) r W (σ1 10 0) = 0 ∧ roP (σ 9) (σ 8 0) r W (σ1 10 0) ≠ σ 8 0) → WG E ad 3 σ3 65 [some (.ref (ad 10)), some (.int (iI b)), some (.int (iI r))] [.int (iI c)] := by
            intro c hcc
            refine g_istore1 X dX3_readText_65 (by decide) (by first | exact Or.inl rfl | exact Or.inr ⟨_, rfl, rfl⟩) ?_
            refine g_iload1 X dX3_readText_66 ?_
            refine g_if_ne (tgt := 102) X (by first | exact hR39 _ _ | exact hR36 _ _ | exact hR26 _ _ | exact hRL14 _ _ | exact hR7 _ _ | exact hR2 _ _ | exact hR0 _ _ | assumption | (unfold InR; omega)) dX3_readText_67 (by decide) (fun h67 => ?_) (fun h67 => ?_)
            · skip
              -- CLOSED
              refine g_iinc2 X dX3_readText_102 (by decide) (by first | exact Or.inl rfl | exact Or.inr ⟨_, rfl, rfl⟩) ?_
              refine g_goto (tgt := 14) X dX3_readText_105 (by decide) ?_
              refine ih14 _ _ _ (by omega) ?_ ?_ ?_ ?_ ?_ ?_
              · omega
              · exact hF3
              · exact hT3
              · rw [kp]; omega
              · omega
              · skip
                rcases hcc with ⟨hc1, hc2⟩ | ⟨hc1, hc2⟩
                · refine Or.inr ⟨hc1, ?_⟩
                  by_cases g0 : roR (σ 9) (σ 8 0) r W (σ1 10 0) = 0
                  · rw [if_neg (by omega), if_pos (by omega)] at hgs
                    obtain ⟨z1, z2, z3⟩ := hD3 g0
                    refine ⟨_, _, by rw [kp, kr, g0, show roP (σ 9) (σ 8 0) r W (σ1 10 0) = σ 8 0 by omega]; exact hgs.symm, fun _ => ⟨z1, k0, by omega, by omega, z2, z3⟩⟩
                  · rw [if_pos g0] at hgs
                    refine ⟨_, _, by rw [kp, kr]; exact hgs.symm, fun h => absurd (kr.symm.trans h) g0⟩
                · exfalso; omega
            · skip
              have hc0 : roR (σ 9) (σ 8 0) r W (σ1 10 0) = 0 ∧ roP (σ 9) (σ 8 0) r W (σ1 10 0) ≠ σ 8 0 := by omega
              rw [if_neg (by omega), if_neg hc0.2] at hgs
              have J86 : ∀ f : Int, f = (if r + 1 < 7 then 1 else 0) → WG E ad 3 σ3 86 [some (.ref (ad 10)), some (.int (iI c)), some (.int (iI r))] [.int (iI f), .int (iI 59), .ref (ad 10)] := by
                intro f hf
                rw [← hf] at hgs
                have hf01 : f = 0 ∨ f = 1 := by
                  rw [hf]; by_cases h : r + 1 < 7
                  · rw [if_pos h]; exact Or.inr rfl
                  · rw [if_neg h]; exact Or.inl rfl
                have hsb := stP_b (T := σ 9) (c := 59) (f := f) hPb.2
                have hsr := stR_b (T := σ 9) (len := σ 8 0) (p := roP (σ 9) (σ 8 0) r W (σ1 10 0)) (c := 59) (f := f)
                refine g_W2 X (k_X3_step E hTX3 (by omega) (by omega) (by omega) (by omega)) gX3_readText_X3_step rfl (by decide +kernel) (by decide) ob_10 (Nat.le_of_ble_eq_true rfl) dX3_readText_86 ?_
                refine g_rg (fun hR86 => ?_)
                rw [e38, e39, kp]
                generalize hσ4 : rdU σ3 (stP (σ 9) (σ 8 0) (roP (σ 9) (σ 8 0) r W (σ1 10 0)) 59 f) (stR (σ 9) (σ 8 0) (roP (σ 9) (σ 8 0) r W (σ1 10 0)) 59 f) = σ4
                obtain ⟨y1, y2, y3⟩ := rdU_at σ3 (stP (σ 9) (σ 8 0) (roP (σ 9) (σ 8 0) r W (σ1 10 0)) 59 f) (stR (σ 9) (σ 8 0) (roP (σ 9) (σ 8 0) r W (σ1 10 0)) 59 f)
                rw [hσ4] at y1 y2 y3
                refine g_rg (fun hR89 => ?_)
                refine g_aload0 X dX3_readText_89 ?_
                refine gf_3_reason X i3 (by decide +kernel) dX3_readText_90 ?_
                refine g_if_eq (tgt := 100) X (by first | exact hR89 _ _ | exact hR86 _ _ | exact hR39 _ _ | exact hR36 _ _ | exact hR26 _ _ | exact hRL14 _ _ | exact hR7 _ _ | exact hR2 _ _ | exact hR0 _ _ | assumption | (unfold InR; omega)) dX3_readText_93 (by decide) (fun h93 => ?_) (fun h93 => ?_)
                · skip
                  -- CLOSED
                  refine g_iconst X dX3_readText_100 ?_
                  refine g_istore1 X dX3_readText_101 (by decide) (by first | exact Or.inl rfl | exact Or.inr ⟨_, rfl, rfl⟩) ?_
                  refine g_iinc2 X dX3_readText_102 (by decide) (by first | exact Or.inl rfl | exact Or.inr ⟨_, rfl, rfl⟩) ?_
                  refine g_goto (tgt := 14) X dX3_readText_105 (by decide) ?_
                  refine ih14 _ _ _ (by omega) ?_ ?_ ?_ ?_ ?_ ?_
                  · omega
                  · exact fun q k a1 a2 => (y3 q k (by omega)).trans (hF3 q k a1 a2)
                  · exact ⟨by rw [y3 _ _ (by unfold TB; omega)]; exact hT3.1, by rw [y3 _ _ (by unfold TB; omega)]; exact hT3.2.1, fun v a1 a2 => by rw [y3 _ _ (by unfold TI; omega)]; exact hT3.2.2.1 v a1 a2, fun v j a1 a2 a3 a4 => by rw [y3 _ _ (by unfold TR; omega)]; exact hT3.2.2.2 v j a1 a2 a3 a4⟩
                  · rw [y1]; omega
                  · first | exact Or.inl rfl | exact Or.inr rfl
                  · skip
                    have hs0 : stR (σ 9) (σ 8 0) (roP (σ 9) (σ 8 0) r W (σ1 10 0)) 59 f = 0 := by omega
                    rw [if_neg (by omega)] at hgs
                    obtain ⟨z1, z2, z3⟩ := hD3 hc0.1
                    have hac : isAc (σ 9) (σ 8 0) (roP (σ 9) (σ 8 0) r W (σ1 10 0)) 59 ∧ f ≠ 0 := by
                      unfold stR at hs0
                      by_cases g1 : isAc (σ 9) (σ 8 0) (roP (σ 9) (σ 8 0) r W (σ1 10 0)) 59
                      · rw [if_pos g1] at hs0
                        by_cases g2 : f = 0
                        · rw [if_pos g2] at hs0; omega
                        · exact ⟨g1, g2⟩
                      · rw [if_neg g1] at hs0; omega
                    have hsp : stP (σ 9) (σ 8 0) (roP (σ 9) (σ 8 0) r W (σ1 10 0)) 59 f = roP (σ 9) (σ 8 0) r W (σ1 10 0) + 1 := by
                      unfold stP; rw [if_pos hac]
                    have hr7 : r + 1 < 7 := by
                      by_cases h : r + 1 < 7
                      · exact h
                      · rw [if_neg h] at hf; exact absurd hf hac.2
                    refine Or.inl ⟨rfl, hr7, by rw [y2]; exact hs0, ?_, ?_, fun _ => ?_, ?_, ?_⟩
                    · rw [y1, hsp, if_neg (by omega), ← z1]; exact hgs
                    · rw [y1, hsp, rpS_s hr7b.1, hW, hpl]
                    · rw [y3 _ _ (by unfold TB; omega)]; exact z2
                    · intro v j a1 a2 a3 a4; rw [y3 _ _ (by unfold TR; omega)]; exact z3.1 v j a1 a2 a3 a4
                    · intro v a1 a2; rw [y3 _ _ (by unfold TI; omega)]; exact z3.2 v a1 a2
                · skip
                  -- CLOSED
                  refine g_iconst X dX3_readText_96 ?_
                  refine g_goto (tgt := 101) X dX3_readText_97 (by decide) ?_
                  refine g_istore1 X dX3_readText_101 (by decide) (by first | exact Or.inl rfl | exact Or.inr ⟨_, rfl, rfl⟩) ?_
                  refine g_iinc2 X dX3_readText_102 (by decide) (by first | exact Or.inl rfl | exact Or.inr ⟨_, rfl, rfl⟩) ?_
                  refine g_goto (tgt := 14) X dX3_readText_105 (by decide) ?_
                  refine ih14 _ _ _ (by omega) ?_ ?_ ?_ ?_ ?_ ?_
                  · omega
                  · exact fun q k a1 a2 => (y3 q k (by omega)).trans (hF3 q k a1 a2)
                  · exact ⟨by rw [y3 _ _ (by unfold TB; omega)]; exact hT3.1, by rw [y3 _ _ (by unfold TB; omega)]; exact hT3.2.1, fun v a1 a2 => by rw [y3 _ _ (by unfold TI; omega)]; exact hT3.2.2.1 v a1 a2, fun v j a1 a2 a3 a4 => by rw [y3 _ _ (by unfold TR; omega)]; exact hT3.2.2.2 v j a1 a2 a3 a4⟩
                  · rw [y1]; omega
                  · first | exact Or.inl rfl | exact Or.inr rfl
                  · skip
                    have hs0 : stR (σ 9) (σ 8 0) (roP (σ 9) (σ 8 0) r W (σ1 10 0)) 59 f ≠ 0 := by omega
                    rw [if_pos hs0] at hgs
                    have hsp : stP (σ 9) (σ 8 0) (roP (σ 9) (σ 8 0) r W (σ1 10 0)) 59 f = roP (σ 9) (σ 8 0) r W (σ1 10 0) := by
                      unfold stP; rw [if_neg (fun h => hs0 (by unfold stR; rw [if_pos h.1, if_neg h.2]))]
                    refine Or.inr ⟨rfl, r + 1, roW (σ 9) (σ 8 0) r W (σ1 10 0), ?_, fun h => ?_⟩
                    rotate_left
                    · exact absurd (y2.symm.trans h) hs0
                    · rw [y1, y2, hsp]; exact hgs.symm
              refine g_aload0 X dX3_readText_70 ?_
              refine g_bipush X dX3_readText_71 (by decide +kernel) ?_
              refine g_iload2 X dX3_readText_73 ?_
              refine g_iconst X dX3_readText_74 ?_
              refine g_iadd X dX3_readText_75 ?_
              refine g_bipush X dX3_readText_76 (by decide +kernel) ?_
              refine g_icmp_ge (tgt := 85) X (by first | exact hR39 _ _ | exact hR36 _ _ | exact hR26 _ _ | exact hRL14 _ _ | exact hR7 _ _ | exact hR2 _ _ | exact hR0 _ _ | assumption | (unfold InR; omega)) (by first | exact hR39 _ _ | exact hR36 _ _ | exact hR26 _ _ | exact hRL14 _ _ | exact hR7 _ _ | exact hR2 _ _ | exact hR0 _ _ | assumption | (unfold InR; omega)) dX3_readText_78 (by decide) (fun h78 => ?_) (fun h78 => ?_)
              · skip
                refine g_iconst X dX3_readText_85 ?_
                exact J86 _ (by first | (rw [if_pos (by omega)]; done) | (rw [if_neg (by omega)]; done))
              · skip
                refine g_iconst X dX3_readText_81 ?_
                refine g_goto (tgt := 86) X dX3_readText_82 (by decide) ?_
                exact J86 _ (by first | (rw [if_pos (by omega)]; done) | (rw [if_neg (by omega)]; done))
          refine g_aload0 X dX3_readText_39 ?_
          refine gf_3_reason X i3 (by decide +kernel) dX3_readText_40 ?_
          refine g_if_ne (tgt := 60) X (by first | exact hR39 _ _ | exact hR36 _ _ | exact hR26 _ _ | exact hRL14 _ _ | exact hR7 _ _ | exact hR2 _ _ | exact hR0 _ _ | assumption | (unfold InR; omega)) dX3_readText_43 (by decide) (fun h43 => ?_) (fun h43 => ?_)
          · skip
            refine g_iconst X dX3_readText_60 ?_
            refine g_goto (tgt := 65) X dX3_readText_61 (by decide) ?_
            exact J65 _ (by omega)
          · skip
            refine g_aload0 X dX3_readText_46 ?_
            refine gf_3_place X i3 (by decide +kernel) dX3_readText_47 ?_
            refine g_aload0 X dX3_readText_50 ?_
            refine gf_3_text X i3 (by decide +kernel) dX3_readText_51 ?_
            refine gf_5_length X i5 (by decide +kernel) dX3_readText_54 ?_
            refine g_icmp_ne (tgt := 64) X (by first | exact hR39 _ _ | exact hR36 _ _ | exact hR26 _ _ | exact hRL14 _ _ | exact hR7 _ _ | exact hR2 _ _ | exact hR0 _ _ | assumption | (unfold InR; omega)) (by first | exact hR39 _ _ | exact hR36 _ _ | exact hR26 _ _ | exact hRL14 _ _ | exact hR7 _ _ | exact hR2 _ _ | exact hR0 _ _ | assumption | (unfold InR; omega)) dX3_readText_57 (by decide) (fun h57 => ?_) (fun h57 => ?_)
            · skip
              refine g_iconst X dX3_readText_64 ?_
              exact J65 _ (by omega)
            · skip
              refine g_iconst X dX3_readText_60 ?_
              refine g_goto (tgt := 65) X dX3_readText_61 (by decide) ?_
              exact J65 _ (by omega)
  refine L14 _ _ _ _ (Nat.lt_succ_self _) ?_ ?_ ?_ ?_ ?_ ?_
  · omega
  · intro q k a1 a2
    unfold up
    rw [if_neg (by omega), if_neg (by omega)]
  · exact ⟨by unfold up; rw [if_neg (by unfold TB; omega), if_neg (by unfold TB; omega)]; exact hT50.1, by unfold up; rw [if_neg (by unfold TB; omega), if_neg (by unfold TB; omega)]; exact hT50.2.1, fun v a1 a2 => by unfold up; rw [if_neg (by unfold TI; omega), if_neg (by unfold TI; omega)]; exact hT50.2.2.1 v a1 a2, fun v j a1 a2 a3 a4 => by unfold up; rw [if_neg (by unfold TR; omega), if_neg (by unfold TR; omega)]; exact hT50.2.2.2 v j a1 a2 a3 a4⟩
  · unfold up
    rw [if_neg (by omega), if_pos ⟨rfl, rfl⟩]
    omega
  · exact Or.inl rfl
  · refine Or.inl ⟨rfl, by omega, ?_, ?_, ?_, fun h => absurd rfl h, fun v j a1 a2 => by omega, fun v a1 a2 => by omega⟩
    · unfold up; rw [if_pos ⟨rfl, rfl⟩]
    · unfold up; rw [if_neg (by omega), if_pos ⟨rfl, rfl⟩, if_pos rfl]; rfl
    · unfold up; rw [if_neg (by omega), if_pos ⟨rfl, rfl⟩]; rfl
