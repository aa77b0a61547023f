/-! MY CONTRACTS: the reference's texts -/
def TXM (σ : St) : Prop := (0 ≤ σ 79 4 ∧ σ 79 4 ≤ 80) ∧ ∀ k, 0 ≤ k → k < 80 → 0 ≤ σ 82 k ∧ σ 82 k < 65536
theorem TXM.of {σ σ' : St} (h : TXM σ) (h4 : σ' 79 4 = σ 79 4) (h82 : ∀ k, σ' 82 k = σ 82 k) : TXM σ' := ⟨by rw [h4]; exact h.1, fun k a b => by rw [h82]; exact h.2 k a b⟩
theorem g_st {E : EV} {ad : Int → Nat} {nL : Nat} {σ : St} {pc : Nat} {lv : List (Option Value)} {st : List Value} (h : ∀ σ2, σ2 = σ → WG E ad nL σ2 pc lv st) : WG E ad nL σ pc lv st := h σ rfl
def iaM (σ : St) (a b : Int) : Int := if σ 79 11 < σ 79 4 ∧ a ≤ σ 82 (σ 79 11) ∧ σ 82 (σ 79 11) ≤ b then 1 else 0
theorem iaM_01 (σ : St) (a b : Int) : (iaM σ a b = 1 ∧ σ 79 11 < σ 79 4 ∧ a ≤ σ 82 (σ 79 11) ∧ σ 82 (σ 79 11) ≤ b) ∨ (iaM σ a b = 0 ∧ ¬ (σ 79 11 < σ 79 4 ∧ a ≤ σ 82 (σ 79 11) ∧ σ 82 (σ 79 11) ≤ b)) := if01
def F3 (σ σ' : St) : Prop := ∀ q k, ¬ (q = 79 ∧ (k = 11 ∨ k = 12 ∨ k = 15)) → σ' q k = σ q k
theorem F3.rf {σ : St} : F3 σ σ := fun _ _ _ => rfl
theorem F3.tr {σ σ' σ'' : St} (h1 : F3 σ σ') (h2 : F3 σ' σ'') : F3 σ σ'' := fun q k h => (h2 q k h).trans (h1 q k h)
theorem F3.up {σ σ' : St} (h : F3 σ σ') {k v : Int} (hk : k = 11 ∨ k = 12 ∨ k = 15) : F3 σ (up σ' 79 k v) := fun q j a => by
  rw [up_o (by omega)]; exact h q j a
theorem F3.tx {σ σ' : St} (h : F3 σ σ') (hT : TXM σ) : TXM σ' := hT.of (h _ _ (by omega)) (fun k => h _ _ (by omega))
theorem F3.T {σ σ' : St} (h : F3 σ σ') : σ' 82 = σ 82 ∧ σ' 79 4 = σ 79 4 := ⟨funext fun k => h _ _ (by omega), h _ _ (by omega)⟩
set_option maxHeartbeats 4000000 in
set_option maxRecDepth 100000 in
theorem k_X7_isAt (E0 : EV) {ad : Int → Nat} {σ : St} {a b : Int} (hTX : TXM σ) (hS : 0 ≤ σ 79 11 ∧ σ 79 11 ≤ σ 79 4) (ha : 0 ≤ a ∧ a < 65536) (hb : 0 ≤ b ∧ b < 65536) : MGE E0 yX7_isAt wsX7_isAt 1 22 ad σ [.ref (ad 79), .int (iI a), .int (iI b)] (PF (iaM σ a b) σ) := by
  refine MGE.of (cc := cX7_isAt) (maxL := 3) (ret := (some .boolean)) (own := RX7) [some (.ref (ad 79)), some (.int (iI a)), some (.int (iI b))] (by decide +kernel) rfl rfl (Nat.le_of_ble_eq_true rfl) rfl rfl (fun E X hr => ?_)
  have i7 : ∀ w ∈ wsX70, w ∈ wsX7_isAt := by decide +kernel
  refine g_rg (fun hR0 => ?_)
  have h4 := hTX.1
  refine g_aload0 X dX7_isAt_0 ?_
  refine gf_7_spot X i7 (by decide +kernel) dX7_isAt_1 ?_
  refine g_aload0 X dX7_isAt_4 ?_
  refine gf_7_typed X i7 (by decide +kernel) dX7_isAt_5 ?_
  refine g_icmp_ge (tgt := 32) X (by first | exact hR0 _ _ | assumption | (unfold InR; omega)) (by first | exact hR0 _ _ | assumption | (unfold InR; omega)) dX7_isAt_8 (by decide) (fun h8 => ?_) (fun h8 => ?_)
  · skip
    refine g_iconst X dX7_isAt_32 ?_
    exact g_zretF X hr (by first | exact Or.inl rfl | exact Or.inr rfl | omega) ⟨(by unfold iaM; repeat (first | rw [if_pos (by omega)] | rw [if_neg (by omega)]); all_goals omega), rfl⟩ dX7_isAt_33
  · skip
    have hc := inB_01 (σ 82 (σ 79 11)) a b
    refine g_aload0 X dX7_isAt_11 ?_
    refine gf_7_text X i7 (by decide +kernel) dX7_isAt_12 ?_
    refine g_aload0 X dX7_isAt_15 ?_
    refine gf_7_spot X i7 (by decide +kernel) dX7_isAt_16 ?_
    refine g_iald X (ia_82 (by omega)) dX7_isAt_19 ?_
    refine g_iload1 X dX7_isAt_20 ?_
    refine g_iload2 X dX7_isAt_21 ?_
    refine g_SF3 X (k_X7_in E (hR0 _ _) (by unfold InR; omega) (by unfold InR; omega)) gX7_isAt_X7_in rfl (by decide +kernel) (by decide) (Nat.le_of_ble_eq_true rfl) dX7_isAt_22 (fun hz22 => ?_)
    refine g_rg (fun hR22 => ?_)
    refine g_if_eq (tgt := 32) X (by first | exact hR22 _ _ | exact hR0 _ _ | assumption | (unfold InR; omega)) dX7_isAt_25 (by decide) (fun h25 => ?_) (fun h25 => ?_)
    · skip
      refine g_iconst X dX7_isAt_32 ?_
      exact g_zretF X hr (by first | exact Or.inl rfl | exact Or.inr rfl | omega) ⟨(by unfold iaM; repeat (first | rw [if_pos (by omega)] | rw [if_neg (by omega)]); all_goals omega), rfl⟩ dX7_isAt_33
    · skip
      refine g_iconst X dX7_isAt_28 ?_
      refine g_goto (tgt := 33) X dX7_isAt_29 (by decide) ?_
      exact g_zretF X hr (by first | exact Or.inl rfl | exact Or.inr rfl | omega) ⟨(by unfold iaM; repeat (first | rw [if_pos (by omega)] | rw [if_neg (by omega)]); all_goals omega), rfl⟩ dX7_isAt_33

set_option maxHeartbeats 4000000 in
set_option maxRecDepth 100000 in
theorem k_X7_fails (E0 : EV) {ad : Int → Nat} {σ : St} {y : Int} (hy : InR y) : MGE E0 yX7_fails wsX7_fails 0 0 ad σ [.ref (ad 79), .int (iI y)] (PF 0 (up σ 79 12 y)) := by
  refine MGE.of (cc := cX7_fails) (maxL := 2) (ret := (some .boolean)) (own := RX7) [some (.ref (ad 79)), some (.int (iI y))] (by decide +kernel) rfl rfl (Nat.le_of_ble_eq_true rfl) rfl rfl (fun E X hr => ?_)
  have i7 : ∀ w ∈ wsX70, w ∈ wsX7_fails := by decide +kernel
  refine g_rg (fun hR0 => ?_)
  refine g_aload0 X dX7_fails_0 ?_
  refine g_iload1 X dX7_fails_1 ?_
  refine gp_7_reason X i7 (by decide +kernel) (by first | exact hR0 _ _ | assumption | (unfold InR; omega)) dX7_fails_2 ?_
  refine g_rg (fun hR2 => ?_)
  refine g_iconst X dX7_fails_5 ?_
  exact g_zretF X hr (by first | exact Or.inl rfl | exact Or.inr rfl | omega) ⟨rfl, rfl⟩ dX7_fails_6

set_option maxHeartbeats 4000000 in
set_option maxRecDepth 100000 in
theorem k_X7_number (E0 : EV) {ad : Int → Nat} {σ : St} (hTX : TXM σ) (hS : 0 ≤ σ 79 11 ∧ σ 79 11 ≤ σ 79 4) : MGE E0 yX7_number wsX7_number 2 44 ad σ [.ref (ad 79)] (PI (fun z σ' => z = 1 - nR (σ 82) (σ 79 4) (σ 79 11) ∧ σ' 79 11 = nP (σ 82) (σ 79 4) (σ 79 11) ∧ (nR (σ 82) (σ 79 4) (σ 79 11) = 0 → σ' 79 15 = nV (σ 82) (σ 79 4) (σ 79 11)) ∧ (nR (σ 82) (σ 79 4) (σ 79 11) = 1 → σ' 79 12 = 1) ∧ F3 σ σ')) := by
  refine MGE.of (cc := cX7_number) (maxL := 3) (ret := (some .boolean)) (own := RX7) [some (.ref (ad 79)), none, none] (by decide +kernel) rfl rfl (Nat.le_of_ble_eq_true rfl) rfl rfl (fun E X hr => ?_)
  have i7 : ∀ w ∈ wsX70, w ∈ wsX7_number := by decide +kernel
  refine g_rg (fun hR0 => ?_)
  have h4 := hTX.1
  have ia0 := iaM_01 σ 48 57
  refine g_aload0 X dX7_number_0 ?_
  refine g_bipush X dX7_number_1 (by decide +kernel) ?_
  refine g_bipush X dX7_number_3 (by decide +kernel) ?_
  refine g_F2 X (k_X7_isAt E hTX hS (by omega) (by omega)) gX7_number_X7_isAt rfl (by decide +kernel) (by decide) ob_79 (Nat.le_of_ble_eq_true rfl) dX7_number_5 (fun hz5 => ?_)
  refine g_rg (fun hR5 => ?_)
  refine g_if_ne (tgt := 17) X (by first | exact hR5 _ _ | exact hR0 _ _ | assumption | (unfold InR; omega)) dX7_number_8 (by decide) (fun h8 => ?_) (fun h8 => ?_)
  · skip
    have hdg : isDg (σ 82) (σ 79 4) (σ 79 11) := by unfold isDg; omega
    have enR0 : nR (σ 82) (σ 79 4) (σ 79 11) = 0 := by unfold nR; rw [if_pos hdg]
    have enP0 : nP (σ 82) (σ 79 4) (σ 79 11) = (nuG (σ 82) (σ 79 4) 3 (σ 82 (σ 79 11) - 48) (σ 79 11 + 1)).2 := by unfold nP; rw [if_pos hdg]
    have enV0 : nV (σ 82) (σ 79 4) (σ 79 11) = (nuG (σ 82) (σ 79 4) 3 (σ 82 (σ 79 11) - 48) (σ 79 11 + 1)).1 := by unfold nV; rw [if_pos hdg]
    refine g_aload0 X dX7_number_17 ?_
    refine g_iconst X dX7_number_18 ?_
    refine gp_7_value X i7 (by decide +kernel) (by first | exact hR5 _ _ | exact hR0 _ _ | assumption | (unfold InR; omega)) dX7_number_19 ?_
    refine g_rg (fun hR19 => ?_)
    refine g_iconst X dX7_number_22 ?_
    refine g_istore1 X dX7_number_23 (by decide) (by first | exact Or.inl rfl | exact Or.inr ⟨_, rfl, rfl⟩) ?_
    refine g_iconst X dX7_number_24 ?_
    refine g_istore2 X dX7_number_25 (by decide) (by first | exact Or.inl rfl | exact Or.inr ⟨_, rfl, rfl⟩) ?_
    have L26 : ∀ (n26 : Nat) (k b : Int) (σ1 : St), (4 - k).toNat < n26 → (0 ≤ k ∧ k ≤ 4) → (b = 0 ∨ b = 1) → (F3 σ σ1) → (0 ≤ σ1 79 11 ∧ σ1 79 11 ≤ σ 79 4) → ((0 ≤ σ1 79 15 ∧ σ1 79 15 ≤ 9999) ∧ (k = 0 → σ1 79 15 = 0) ∧ (k ≤ 1 → σ1 79 15 ≤ 9) ∧ (k ≤ 2 → σ1 79 15 ≤ 99) ∧ (k ≤ 3 → σ1 79 15 ≤ 999)) → (((k = 0 ∧ b = 1 ∧ σ1 79 15 = 0 ∧ σ1 79 11 = σ 79 11) ∨ (1 ≤ k ∧ k ≤ 4 ∧ nuG (σ 82) (σ 79 4) 3 (σ 82 (σ 79 11) - 48) (σ 79 11 + 1) = nuG (σ 82) (σ 79 4) (4 - k).toNat (σ1 79 15) (σ1 79 11) ∧ ((b = 1 ∧ 0 < σ1 79 15 ∧ isDg (σ 82) (σ 79 4) (σ1 79 11)) ∨ (b = 0 ∧ ¬ (0 < σ1 79 15 ∧ isDg (σ 82) (σ 79 4) (σ1 79 11))))))) → WG E ad 3 σ1 26 [some (.ref (ad 79)), some (.int (iI b)), some (.int (iI k))] [] := by
      intro n26
      induction n26 with
      | zero => intro k b σ1 hn; exact absurd hn (Nat.not_lt_zero _)
      | succ n26 ih26 =>
        intro k b σ1 hn26 hk hb01 hF hp hv hi
        refine g_rg (fun hRL26 => ?_)
        refine g_iload2 X dX7_number_26 ?_
        refine g_iconst X dX7_number_27 ?_
        refine g_icmp_ge (tgt := 99) X (by first | exact hRL26 _ _ | exact hR19 _ _ | exact hR5 _ _ | exact hR0 _ _ | assumption | (unfold InR; omega)) (by first | exact hRL26 _ _ | exact hR19 _ _ | exact hR5 _ _ | exact hR0 _ _ | assumption | (unfold InR; omega)) dX7_number_28 (by decide) (fun h28 => ?_) (fun h28 => ?_)
        · skip
          refine g_iconst X dX7_number_99 ?_
          exact g_zret X hr (by first | exact Or.inl rfl | exact Or.inr rfl | omega) (by
    have hst : nuG (σ 82) (σ 79 4) 3 (σ 82 (σ 79 11) - 48) (σ 79 11 + 1) = (σ1 79 15, σ1 79 11) := by
      rcases hi with h | h
      · omega
      · rw [h.2.2.1]; exact nuG_stop (by first | exact Or.inl (by omega) | (rcases h.2.2.2 with h9 | h9; { omega }; { exact Or.inr h9.2 }))
    exact ⟨by rw [enR0]; rfl, by rw [enP0, hst], fun _ => by rw [enV0, hst], fun h => by omega, hF⟩) dX7_number_100
        · skip
          refine g_iload1 X dX7_number_31 ?_
          refine g_if_eq (tgt := 99) X (by first | exact hRL26 _ _ | exact hR19 _ _ | exact hR5 _ _ | exact hR0 _ _ | assumption | (unfold InR; omega)) dX7_number_32 (by decide) (fun h32 => ?_) (fun h32 => ?_)
          · skip
            refine g_iconst X dX7_number_99 ?_
            exact g_zret X hr (by first | exact Or.inl rfl | exact Or.inr rfl | omega) (by
    have hst : nuG (σ 82) (σ 79 4) 3 (σ 82 (σ 79 11) - 48) (σ 79 11 + 1) = (σ1 79 15, σ1 79 11) := by
      rcases hi with h | h
      · omega
      · rw [h.2.2.1]; exact nuG_stop (by first | exact Or.inl (by omega) | (rcases h.2.2.2 with h9 | h9; { omega }; { exact Or.inr h9.2 }))
    exact ⟨by rw [enR0]; rfl, by rw [enP0, hst], fun _ => by rw [enV0, hst], fun h => by omega, hF⟩) dX7_number_100
          · skip
            have hd2 : isDg (σ 82) (σ 79 4) (σ1 79 11) := by
              rcases hi with h | h
              · rw [h.2.2.2]; exact hdg
              · rcases h.2.2.2 with h9 | h9
                · exact h9.2.2
                · omega
            have f82 : σ1 82 (σ1 79 11) = σ 82 (σ1 79 11) := hF _ _ (by omega)
            refine g_aload0 X dX7_number_35 ?_
            refine g_bipush X dX7_number_36 (by decide +kernel) ?_
            refine g_aload0 X dX7_number_38 ?_
            refine gf_7_value X i7 (by decide +kernel) dX7_number_39 ?_
            refine g_imul X dX7_number_42 ?_
            refine g_aload0 X dX7_number_43 ?_
            refine gf_7_text X i7 (by decide +kernel) dX7_number_44 ?_
            refine g_aload0 X dX7_number_47 ?_
            refine gf_7_spot X i7 (by decide +kernel) dX7_number_48 ?_
            refine g_iald X (ia_82 (by omega)) dX7_number_51 ?_
            refine g_iadd X dX7_number_52 ?_
            refine g_bipush X dX7_number_53 (by decide +kernel) ?_
            refine g_isub X dX7_number_55 ?_
            refine gp_7_value X i7 (by decide +kernel) (by first | exact hRL26 _ _ | exact hR19 _ _ | exact hR5 _ _ | exact hR0 _ _ | assumption | (unfold InR; omega)) dX7_number_56 ?_
            refine g_rg (fun hR56 => ?_)
            refine g_aload0 X dX7_number_59 ?_
            refine g_dup X dX7_number_60 rfl ?_
            refine gf_7_spot X i7 (by decide +kernel) dX7_number_61 ?_
            refine g_iconst X dX7_number_64 ?_
            refine g_iadd X dX7_number_65 ?_
            rw [show up σ1 79 15 (10 * σ1 79 15 + σ1 82 (σ1 79 11) - 48) 79 11 = σ1 79 11 from up_o (by omega)]
            refine gp_7_spot X i7 (by decide +kernel) (by first | exact hR56 _ _ | exact hRL26 _ _ | exact hR19 _ _ | exact hR5 _ _ | exact hR0 _ _ | assumption | (unfold InR; omega)) dX7_number_66 ?_
            refine g_rg (fun hR66 => ?_)
            refine g_st (fun σ2 hσ2 => ?_)
            have g15 : σ2 79 15 = 10 * σ1 79 15 + σ1 82 (σ1 79 11) - 48 := by rw [hσ2, up_o (by omega), up_e]
            have g11 : σ2 79 11 = σ1 79 11 + 1 := by rw [hσ2, up_e]
            have hF2 : F3 σ σ2 := by rw [hσ2]; exact (hF.up (by omega)).up (by omega)
            have hTX2 := hF2.tx hTX
            have g4 : σ2 79 4 = σ 79 4 := hF2 _ _ (by omega)
            have ia := iaM_01 σ2 48 57
            have g82 : σ2 82 (σ2 79 11) = σ 82 (σ2 79 11) := hF2 _ _ (by omega)
            have J92 : ∀ b2 : Int, ((b2 = 1 ∧ 0 < σ2 79 15 ∧ isDg (σ 82) (σ 79 4) (σ2 79 11)) ∨ (b2 = 0 ∧ ¬ (0 < σ2 79 15 ∧ isDg (σ 82) (σ 79 4) (σ2 79 11)))) → WG E ad 3 σ2 92 [some (.ref (ad 79)), some (.int (iI b)), some (.int (iI k))] [.int (iI b2)] := by
              intro b2 hb2
              refine g_istore1 X dX7_number_92 (by decide) (by first | exact Or.inl rfl | exact Or.inr ⟨_, rfl, rfl⟩) ?_
              refine g_iinc2 X dX7_number_93 (by decide) (by first | exact Or.inl rfl | exact Or.inr ⟨_, rfl, rfl⟩) ?_
              refine g_goto (tgt := 26) X dX7_number_96 (by decide) ?_
              refine ih26 _ _ _ (by omega) ?_ ?_ ?_ ?_ ?_ ?_
              · omega
              · omega
              · exact hF2
              · omega
              · omega
              · refine Or.inr ⟨by omega, by omega, ?_, hb2⟩
                rcases hi with h | h
                · rw [show k = 0 from h.1, show (4 - (0 + 1 : Int)).toNat = 3 from rfl, show σ2 79 15 = σ 82 (σ 79 11) - 48 by rw [g15, f82, h.2.2.1, h.2.2.2]; omega, g11, h.2.2.2]
                · have h8 : 0 < σ1 79 15 := by omega
                  rw [h.2.2.1, nuG_step (by omega) ⟨h8, hd2⟩, g11, show σ2 79 15 = σ1 79 15 * 10 + (σ 82 (σ1 79 11) - 48) by rw [g15, f82]; omega]
            refine g_aload0 X dX7_number_69 ?_
            refine gf_7_value X i7 (by decide +kernel) dX7_number_70 ?_
            refine g_if_le (tgt := 91) X (by first | exact hR66 _ _ | exact hR56 _ _ | exact hRL26 _ _ | exact hR19 _ _ | exact hR5 _ _ | exact hR0 _ _ | assumption | (unfold InR; omega)) dX7_number_73 (by decide) (fun h73 => ?_) (fun h73 => ?_)
            · skip
              refine g_iconst X dX7_number_91 ?_
              first | exact J92 _ (Or.inl ⟨rfl, by omega, by unfold isDg; omega⟩) | exact J92 _ (Or.inr ⟨rfl, by unfold isDg; omega⟩)
            · skip
              refine g_aload0 X dX7_number_76 ?_
              refine g_bipush X dX7_number_77 (by decide +kernel) ?_
              refine g_bipush X dX7_number_79 (by decide +kernel) ?_
              refine g_F2 X (k_X7_isAt E hTX2 (by omega) (by omega) (by omega)) gX7_number_X7_isAt rfl (by decide +kernel) (by decide) ob_79 (Nat.le_of_ble_eq_true rfl) dX7_number_81 (fun hz81 => ?_)
              refine g_rg (fun hR81 => ?_)
              refine g_if_eq (tgt := 91) X (by first | exact hR81 _ _ | exact hR66 _ _ | exact hR56 _ _ | exact hRL26 _ _ | exact hR19 _ _ | exact hR5 _ _ | exact hR0 _ _ | assumption | (unfold InR; omega)) dX7_number_84 (by decide) (fun h84 => ?_) (fun h84 => ?_)
              · skip
                refine g_iconst X dX7_number_91 ?_
                first | exact J92 _ (Or.inl ⟨rfl, by omega, by unfold isDg; omega⟩) | exact J92 _ (Or.inr ⟨rfl, by unfold isDg; omega⟩)
              · skip
                refine g_iconst X dX7_number_87 ?_
                refine g_goto (tgt := 92) X dX7_number_88 (by decide) ?_
                first | exact J92 _ (Or.inl ⟨rfl, by omega, by unfold isDg; omega⟩) | exact J92 _ (Or.inr ⟨rfl, by unfold isDg; omega⟩)
    refine L26 _ _ _ _ (Nat.lt_succ_self _) ?_ ?_ ?_ ?_ ?_ ?_
    · omega
    · omega
    · exact F3.rf.up (by omega)
    · rw [up_o (by omega)]; omega
    · rw [up_e]; omega
    · exact Or.inl ⟨rfl, rfl, up_e, up_o (by omega)⟩
  · skip
    refine g_aload0 X dX7_number_11 ?_
    refine g_iconst X dX7_number_12 ?_
    refine g_F1 X (k_X7_fails E (by unfold InR; omega)) gX7_number_X7_fails rfl (by decide +kernel) (by decide) ob_79 (Nat.le_of_ble_eq_true rfl) dX7_number_13 (fun hz13 => ?_)
    refine g_rg (fun hR13 => ?_)
    exact g_zret X hr (by first | exact Or.inl rfl | exact Or.inr rfl | omega) (by
    have hnd : ¬ isDg (σ 82) (σ 79 4) (σ 79 11) := by unfold isDg; omega
    refine ⟨by unfold nR; rw [if_neg hnd]; rfl, ?_, fun h => ?_, fun _ => up_e, F3.rf.up (by omega)⟩
    · unfold nP; rw [if_neg hnd]; exact up_o (by omega)
    · unfold nR at h; rw [if_neg hnd] at h; omega) dX7_number_16

set_option maxHeartbeats 4000000 in
set_option maxRecDepth 100000 in
theorem k_X7_entry (E0 : EV) {ad : Int → Nat} {σ : St} (hTX : TXM σ) (hS : 0 ≤ σ 79 11 ∧ σ 79 11 ≤ σ 79 4) : MGE E0 yX7_entry wsX7_entry 3 66 ad σ [.ref (ad 79)] (PI (fun z σ' => z = 1 - enR (σ 82) (σ 79 4) (σ 79 11) ∧ σ' 79 11 = enP (σ 82) (σ 79 4) (σ 79 11) ∧ (enR (σ 82) (σ 79 4) (σ 79 11) = 0 → σ' 79 15 = enV (σ 82) (σ 79 4) (σ 79 11)) ∧ (enR (σ 82) (σ 79 4) (σ 79 11) = 1 → σ' 79 12 = 1) ∧ F3 σ σ')) := by
  refine MGE.of (cc := cX7_entry) (maxL := 1) (ret := (some .boolean)) (own := RX7) [some (.ref (ad 79))] (by decide +kernel) rfl rfl (Nat.le_of_ble_eq_true rfl) rfl rfl (fun E X hr => ?_)
  have i7 : ∀ w ∈ wsX70, w ∈ wsX7_entry := by decide +kernel
  refine g_rg (fun hR0 => ?_)
  have h4 := hTX.1
  have ia0 := iaM_01 σ 120 120
  refine g_aload0 X dX7_entry_0 ?_
  refine g_bipush X dX7_entry_1 (by decide +kernel) ?_
  refine g_bipush X dX7_entry_3 (by decide +kernel) ?_
  refine g_F2 X (k_X7_isAt E hTX hS (by omega) (by omega)) gX7_entry_X7_isAt rfl (by decide +kernel) (by decide) ob_79 (Nat.le_of_ble_eq_true rfl) dX7_entry_5 (fun hz5 => ?_)
  refine g_rg (fun hR5 => ?_)
  refine g_if_eq (tgt := 28) X (by first | exact hR5 _ _ | exact hR0 _ _ | assumption | (unfold InR; omega)) dX7_entry_8 (by decide) (fun h8 => ?_) (fun h8 => ?_)
  · skip
    have hac : ¬ isAc (σ 82) (σ 79 4) (σ 79 11) 120 := by unfold isAc; omega
    have e1 : enR (σ 82) (σ 79 4) (σ 79 11) = nR (σ 82) (σ 79 4) (σ 79 11) := by unfold enR; rw [if_neg hac]
    have e2 : enP (σ 82) (σ 79 4) (σ 79 11) = nP (σ 82) (σ 79 4) (σ 79 11) := by unfold enP; rw [if_neg hac]
    have e3 : enV (σ 82) (σ 79 4) (σ 79 11) = nV (σ 82) (σ 79 4) (σ 79 11) := by unfold enV; rw [if_neg hac]
    refine g_aload0 X dX7_entry_28 ?_
    refine g_I0 X (k_X7_number E hTX hS) gX7_entry_X7_number rfl (by decide +kernel) (by decide) ob_79 (Nat.le_of_ble_eq_true rfl) dX7_entry_29 (fun z29 σ29 hz29 hp29 => ?_)
    refine g_rg (fun hR29 => ?_)
    have hnb := nR_b (T := σ 82) (len := σ 79 4) (p := σ 79 11)
    have hz9 := hp29.1
    exact g_zret X hr (by first | exact Or.inl rfl | exact Or.inr rfl | omega) ⟨by rw [e1]; exact hp29.1, by rw [e2]; exact hp29.2.1, by rw [e1, e3]; exact hp29.2.2.1, by rw [e1]; exact hp29.2.2.2.1, hp29.2.2.2.2⟩ dX7_entry_32
  · skip
    have hac : isAc (σ 82) (σ 79 4) (σ 79 11) 120 := by unfold isAc; omega
    refine g_aload0 X dX7_entry_11 ?_
    refine g_iconst X dX7_entry_12 ?_
    refine gp_7_value X i7 (by decide +kernel) (by first | exact hR5 _ _ | exact hR0 _ _ | assumption | (unfold InR; omega)) dX7_entry_13 ?_
    refine g_rg (fun hR13 => ?_)
    refine g_aload0 X dX7_entry_16 ?_
    refine g_dup X dX7_entry_17 rfl ?_
    refine gf_7_spot X i7 (by decide +kernel) dX7_entry_18 ?_
    refine g_iconst X dX7_entry_21 ?_
    refine g_iadd X dX7_entry_22 ?_
    rw [show up σ 79 15 (-1) 79 11 = σ 79 11 from up_o (by omega)]
    refine gp_7_spot X i7 (by decide +kernel) (by first | exact hR13 _ _ | exact hR5 _ _ | exact hR0 _ _ | assumption | (unfold InR; omega)) dX7_entry_23 ?_
    refine g_rg (fun hR23 => ?_)
    refine g_iconst X dX7_entry_26 ?_
    exact g_zret X hr (by first | exact Or.inl rfl | exact Or.inr rfl | omega) ⟨by unfold enR; rw [if_pos hac]; rfl, by unfold enP; rw [if_pos hac, up_e], fun _ => by unfold enV; rw [if_pos hac, up_o (by omega), up_e], fun h => by unfold enR at h; rw [if_pos hac] at h; omega, (F3.rf.up (by omega)).up (by omega)⟩ dX7_entry_27
