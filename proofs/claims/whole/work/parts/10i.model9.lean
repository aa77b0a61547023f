/-! MY CONTRACTS: the reference's whole texts -/
def F86 (σ σ' : St) : Prop := ∀ q k, ¬ (q = 79 ∧ 11 ≤ k ∧ k ≤ 15) → q ≠ 86 → q ≠ 87 → σ' q k = σ q k
theorem F86.qm {σ σ' : St} (h : F86 σ σ') : QM σ σ' := fun q k _ _ _ a b c => h q k c a b
theorem F86.tr {σ σ' σ'' : St} (h1 : F86 σ σ') (h2 : F86 σ' σ'') : F86 σ σ'' := fun q k a b c => (h2 q k a b c).trans (h1 q k a b c)
theorem F86.up {σ σ' : St} (h : F86 σ σ') {k v : Int} (hk : 11 ≤ k ∧ k ≤ 15) : F86 σ (up σ' 79 k v) := fun q j a b c => by
  rw [up_o (by omega)]; exact h q j a b c
theorem F86.T {σ σ' : St} (h : F86 σ σ') : σ' 82 = σ 82 ∧ σ' 79 4 = σ 79 4 := ⟨funext fun k => h _ _ (by omega) (by omega) (by omega), h _ _ (by omega) (by omega) (by omega)⟩
theorem F86.tx {σ σ' : St} (h : F86 σ σ') (hT : TXM σ) : TXM σ' := hT.of h.T.2 (fun k => h _ _ (by omega) (by omega) (by omega))
theorem FRo.f {σ σ' : St} {r : Int} (h : FRo σ σ' r) : F86 σ σ' := fun q k a b c => h q k a (by omega) (by omega)
def RDM (T : Int → Int) (len : Int) (σ1 : St) (r : Int) : Prop := (∀ w j, 0 ≤ w → w < r → 0 ≤ j → j < wiS T len → σ1 86 (7 * w + j) = txC T len w j) ∧ ∀ w, 0 ≤ w → w < r → σ1 87 w = txD T len w
def rwN (T : Int → Int) (len r p : Int) : Int × Int × Int × Int := if p = len then (r, len, 0, wiS T len) else if stR T len p 59 (if r < 7 then 1 else 0) ≠ 0 then (r, p, stR T len p 59 (if r < 7 then 1 else 0), wiS T len) else rwG T len (7 - r).toNat r (p + 1) (wiS T len)
def RIM (T : Int → Int) (len : Int) (σ1 : St) (b : Int) : Prop := (b = 1 ∧ (1 ≤ σ1 79 13 ∧ σ1 79 13 ≤ 7) ∧ (0 ≤ σ1 79 11 ∧ σ1 79 11 ≤ len) ∧ rwN T len (σ1 79 13) (σ1 79 11) = rwR T len ∧ σ1 79 14 = wiS T len ∧ rpS T len (σ1 79 13) = σ1 79 11 + 1 ∧ RDM T len σ1 (σ1 79 13)) ∨ (b = 0 ∧ (rwR T len).2.2.1 ≠ 0 ∧ (rwR T len).2.2.1 = σ1 79 12 ∧ (rwR T len).2.1 = σ1 79 11)
theorem rim {T : Int → Int} {len r w p z : Int} {σ σ' : St} (hr : 0 ≤ r ∧ r < 7) (hp : 0 ≤ p ∧ p ≤ len) (hw : r = 0 ∨ w = wiS T len) (h : PRow T len r w p σ z σ') (hG : rwG T len (7 - r).toNat r p (if r = 0 then 7 else wiS T len) = rwR T len) (hpr : p = rpS T len r) (hD : RDM T len σ r) : RIM T len σ' z ∧ (z = 1 → σ' 79 13 = r + 1) ∧ (z = 0 ∨ z = 1) := by
  have hwb := wiS_b (T := T) (len := len) (by omega)
  obtain ⟨W, hW⟩ : ∃ W, W = (if r = 0 then 7 else wiS T len) := ⟨_, rfl⟩
  have hww : r = 0 ∨ w = W := by
    rcases hw with h0 | h0
    · exact Or.inl h0
    · by_cases hr0 : r = 0
      · exact Or.inl hr0
      · rw [if_neg hr0] at hW; exact Or.inr (by omega)
  obtain ⟨w1, w2, w3, -, -, w6⟩ := ro_w (T := T) (len := len) (p := p) hww
  unfold PRow at h
  rw [w1, w2, w3, w6] at h
  obtain ⟨q1, q2, q3, q4, q5⟩ := h
  rw [← hW] at hG
  rw [rwG_s hr.2] at hG
  have hWb : r = 0 ∨ 1 ≤ W := by
    by_cases hr0 : r = 0
    · exact Or.inl hr0
    · rw [if_neg hr0] at hW; exact Or.inr (by omega)
  have hPb := roP_b (T := T) (len := len) (r := r) (w := W) (p := p) hWb hp.2
  by_cases h0 : roR T len r W p = 0
  · rw [if_pos h0] at q1
    obtain ⟨a1, a2, a3, a4⟩ := q4 h0
    have hN : roN T len r W p = wiS T len := by
      by_cases hr0 : r = 0
      · rw [if_pos hr0] at hW
        rw [hr0] at hpr
        have e0 : rpS T len 0 = 0 := rfl
        rw [hr0, hW, hpr, e0]; rfl
      · rw [if_neg hr0] at hW
        rcases (ro_0 h0).2.2 with h9 | h9
        · exact absurd h9 hr0
        · rw [h9, hW]
    have hRW : roW T len r W p = wiS T len := by
      unfold roW
      by_cases hr0 : r = 0
      · rw [if_pos hr0]; exact hN
      · rw [if_neg hr0]; rw [if_neg hr0] at hW; exact hW
    rw [if_neg (fun hh => hh h0), hRW] at hG
    have hrp := rpS_s (T := T) (len := len) hr.1
    rw [← hW, ← hpr] at hrp
    refine ⟨Or.inl ⟨q1, by omega, by omega, ?_, by rw [a2, hN], by rw [a1, hrp, q2], ?_⟩, fun _ => a1, Or.inr q1⟩
    · rw [a1, q2]; exact hG
    · rw [a1]
      refine ⟨fun v j b1 b2 b3 b4 => ?_, fun v b1 b2 => ?_⟩
      · by_cases hv : v = r
        · rw [hv, a3 j b3 (by omega)]; unfold txC; rw [← hpr]
        · rw [q5 _ _ (by omega) (by omega) (by omega)]; exact hD.1 v j b1 (by omega) b3 b4
      · by_cases hv : v = r
        · rw [hv, a4]; unfold txD; rw [← hW, ← hpr]
        · rw [q5 _ _ (by omega) (by omega) (by omega)]; exact hD.2 v b1 (by omega)
  · rw [if_neg h0] at q1
    rw [if_pos h0] at hG
    refine ⟨Or.inr ⟨q1, ?_, ?_, ?_⟩, fun h1 => by omega, Or.inl q1⟩
    · rw [← hG]; exact h0
    · rw [← hG]; exact (q3 h0).symm
    · rw [← hG]; exact q2.symm
theorem ir_f {σ σ' : St} {z e p r W : Int} (hz : z = 0) (h : rwR (σ 82) (σ 79 4) = (r, p, e, W)) (he : e ≠ 0) (hF : F86 σ σ') (h11 : σ' 79 11 = p) (h12 : σ' 79 12 = e) : z = (if (rwR (σ 82) (σ 79 4)).2.2.1 = 0 then 1 else 0) ∧ F86 σ σ' ∧ ((rwR (σ 82) (σ 79 4)).2.2.1 ≠ 0 → σ' 79 11 = (rwR (σ 82) (σ 79 4)).2.1 ∧ σ' 79 12 = (rwR (σ 82) (σ 79 4)).2.2.1) ∧ ((rwR (σ 82) (σ 79 4)).2.2.1 = 0 → σ' 79 13 = (rwR (σ 82) (σ 79 4)).1 ∧ (1 ≤ (rwR (σ 82) (σ 79 4)).1 ∧ (rwR (σ 82) (σ 79 4)).1 ≤ 7) ∧ σ' 79 14 = wiS (σ 82) (σ 79 4) ∧ RDM (σ 82) (σ 79 4) σ' (rwR (σ 82) (σ 79 4)).1) := by
  rw [h]
  exact ⟨by rw [hz]; exact (if_neg he).symm, hF, fun _ => ⟨h11, h12⟩, fun h0 => absurd h0 he⟩
set_option maxHeartbeats 4000000 in
set_option maxRecDepth 100000 in
theorem k_X7_isRight (E0 : EV) {ad : Int → Nat} {σ : St} (hTX : TXM σ) : MGE E0 yX7_isRight wsX7_isRight 5 109 ad σ [.ref (ad 79)] (PI (fun z σ' => z = (if (rwR (σ 82) (σ 79 4)).2.2.1 = 0 then 1 else 0) ∧ F86 σ σ' ∧ ((rwR (σ 82) (σ 79 4)).2.2.1 ≠ 0 → σ' 79 11 = (rwR (σ 82) (σ 79 4)).2.1 ∧ σ' 79 12 = (rwR (σ 82) (σ 79 4)).2.2.1) ∧ ((rwR (σ 82) (σ 79 4)).2.2.1 = 0 → σ' 79 13 = (rwR (σ 82) (σ 79 4)).1 ∧ (1 ≤ (rwR (σ 82) (σ 79 4)).1 ∧ (rwR (σ 82) (σ 79 4)).1 ≤ 7) ∧ σ' 79 14 = wiS (σ 82) (σ 79 4) ∧ RDM (σ 82) (σ 79 4) σ' (rwR (σ 82) (σ 79 4)).1))) := by
  refine MGE.of (cc := cX7_isRight) (maxL := 2) (ret := (some .boolean)) (own := RX7) [some (.ref (ad 79)), none] (by decide +kernel) rfl rfl (Nat.le_of_ble_eq_true rfl) rfl rfl (fun E X hr => ?_)
  have i7 : ∀ w ∈ wsX70, w ∈ wsX7_isRight := by decide +kernel
  refine g_rg (fun hR0 => ?_)
  have h4 := hTX.1
  have hwS := wiS_b (T := σ 82) (len := σ 79 4) (by omega)
  refine g_aload0 X dX7_isRight_0 ?_
  refine g_iconst X dX7_isRight_1 ?_
  refine gp_7_spot X i7 (by decide +kernel) (by first | exact hR0 _ _ | assumption | (unfold InR; omega)) dX7_isRight_2 ?_
  refine g_rg (fun hR2 => ?_)
  refine g_aload0 X dX7_isRight_5 ?_
  refine g_iconst X dX7_isRight_6 ?_
  refine gp_7_rows X i7 (by decide +kernel) (by first | exact hR2 _ _ | exact hR0 _ _ | assumption | (unfold InR; omega)) dX7_isRight_7 ?_
  refine g_rg (fun hR7 => ?_)
  refine g_aload0 X dX7_isRight_10 ?_
  refine g_bipush X dX7_isRight_11 (by decide +kernel) ?_
  refine gp_7_wide X i7 (by decide +kernel) (by first | exact hR7 _ _ | exact hR2 _ _ | exact hR0 _ _ | assumption | (unfold InR; omega)) dX7_isRight_13 ?_
  refine g_rg (fun hR13 => ?_)
  refine g_st (fun σ0 hσ0 => ?_)
  have k11 : σ0 79 11 = 0 := by rw [hσ0, up_o (by omega), up_o (by omega), up_e]
  have k13 : σ0 79 13 = 0 := by rw [hσ0, up_o (by omega), up_e]
  have k14 : σ0 79 14 = 7 := by rw [hσ0, up_e]
  have hF0 : F86 σ σ0 := fun q k a _ _ => by rw [hσ0, up_o (by omega), up_o (by omega), up_o (by omega)]
  have hTX0 := hF0.tx hTX
  refine g_aload0 X dX7_isRight_16 ?_
  refine g_I0 X (k_X7_row E hTX0 (by have := hF0.T.2; omega) (by omega) (by omega)) gX7_isRight_X7_row rfl (by decide +kernel) (by decide) ob_79 (Nat.le_of_ble_eq_true rfl) dX7_isRight_17 (fun z17 σ17 hz17 hp17 => ?_)
  refine g_rg (fun hR17 => ?_)
  have hq := hp17
  rw [hF0.T.1, hF0.T.2, k11, k13, k14] at hq
  have hr1 := rim (r := 0) (by omega) (by omega) (Or.inl rfl) hq rfl rfl ⟨fun w j a b => by omega, fun w a b => by omega⟩
  have hF1 := hF0.tr hq.2.2.2.2.f
  refine g_istore1 X dX7_isRight_20 (by decide) (by first | exact Or.inl rfl | exact Or.inr ⟨_, rfl, rfl⟩) ?_
  have L21 : ∀ (n21 : Nat) (b n : Int) (σ1 : St), n.toNat < n21 → (b = 0 ∨ b = 1) → (0 ≤ n ∧ (b = 1 → n = 8 - σ1 79 13)) → (F86 σ σ1) → (RIM (σ 82) (σ 79 4) σ1 b) → WG E ad 2 σ1 21 [some (.ref (ad 79)), some (.int (iI b))] [] := by
    intro n21
    induction n21 with
    | zero => intro b n σ1 hn; exact absurd hn (Nat.not_lt_zero _)
    | succ n21 ih21 =>
      intro b n σ1 hn21 hb hn hF hI
      refine g_rg (fun hRL21 => ?_)
      refine g_iload1 X dX7_isRight_21 ?_
      refine g_if_eq (tgt := 86) X (by first | exact hRL21 _ _ | exact hR17 _ _ | exact hR13 _ _ | exact hR7 _ _ | exact hR2 _ _ | exact hR0 _ _ | assumption | (unfold InR; omega)) dX7_isRight_22 (by decide) (fun h22 => ?_) (fun h22 => ?_)
      · skip
        refine g_iload1 X dX7_isRight_86 ?_
        exact g_zret X hr (by first | exact Or.inl rfl | exact Or.inr rfl | omega) (by
    rcases hI with h | h
    · obtain ⟨d0, d1, d2, d3, d4, d5, d6⟩ := h
      have e4 := hF.T.2
      unfold rwN at d3
      rw [if_pos (by omega)] at d3
      rw [← d3]
      exact ⟨d0, hF, fun h => absurd rfl h, fun _ => ⟨rfl, d1, d4, d6⟩⟩
    · exact ⟨by rw [if_neg h.2.1]; exact h.1, hF, fun _ => ⟨h.2.2.2.symm, h.2.2.1.symm⟩, fun h0 => absurd h0 h.2.1⟩) dX7_isRight_87
      · skip
        have hb1 : (1 ≤ σ1 79 13 ∧ σ1 79 13 ≤ 7) ∧ (0 ≤ σ1 79 11 ∧ σ1 79 11 ≤ σ 79 4) ∧ rwN (σ 82) (σ 79 4) (σ1 79 13) (σ1 79 11) = rwR (σ 82) (σ 79 4) ∧ σ1 79 14 = wiS (σ 82) (σ 79 4) ∧ rpS (σ 82) (σ 79 4) (σ1 79 13) = σ1 79 11 + 1 ∧ RDM (σ 82) (σ 79 4) σ1 (σ1 79 13) := by
          rcases hI with h | h
          · exact h.2
          · exact absurd h.1 (by omega)
        obtain ⟨c1, c2, c3, c4, c5, c6⟩ := hb1
        have ia := iaM_01 σ1 59 59
        rw [hF.T.1, hF.T.2] at ia
        have e4 := hF.T.2
        unfold rwN at c3
        refine g_aload0 X dX7_isRight_25 ?_
        refine gf_7_spot X i7 (by decide +kernel) dX7_isRight_26 ?_
        refine g_aload0 X dX7_isRight_29 ?_
        refine gf_7_typed X i7 (by decide +kernel) dX7_isRight_30 ?_
        refine g_icmp_ge (tgt := 86) X (by first | exact hRL21 _ _ | exact hR17 _ _ | exact hR13 _ _ | exact hR7 _ _ | exact hR2 _ _ | exact hR0 _ _ | assumption | (unfold InR; omega)) (by first | exact hRL21 _ _ | exact hR17 _ _ | exact hR13 _ _ | exact hR7 _ _ | exact hR2 _ _ | exact hR0 _ _ | assumption | (unfold InR; omega)) dX7_isRight_33 (by decide) (fun h33 => ?_) (fun h33 => ?_)
        · skip
          refine g_iload1 X dX7_isRight_86 ?_
          exact g_zret X hr (by first | exact Or.inl rfl | exact Or.inr rfl | omega) (by
    rcases hI with h | h
    · obtain ⟨d0, d1, d2, d3, d4, d5, d6⟩ := h
      have e4 := hF.T.2
      unfold rwN at d3
      rw [if_pos (by omega)] at d3
      rw [← d3]
      exact ⟨d0, hF, fun h => absurd rfl h, fun _ => ⟨rfl, d1, d4, d6⟩⟩
    · exact ⟨by rw [if_neg h.2.1]; exact h.1, hF, fun _ => ⟨h.2.2.2.symm, h.2.2.1.symm⟩, fun h0 => absurd h0 h.2.1⟩) dX7_isRight_87
        · skip
          rw [if_neg (by omega)] at c3
          refine g_aload0 X dX7_isRight_36 ?_
          refine g_bipush X dX7_isRight_37 (by decide +kernel) ?_
          refine g_bipush X dX7_isRight_39 (by decide +kernel) ?_
          refine g_F2 X (k_X7_isAt E (hF.tx hTX) (by omega) (by omega) (by omega)) gX7_isRight_X7_isAt rfl (by decide +kernel) (by decide) ob_79 (Nat.le_of_ble_eq_true rfl) dX7_isRight_41 (fun hz41 => ?_)
          refine g_rg (fun hR41 => ?_)
          refine g_if_ne (tgt := 53) X (by first | exact hR41 _ _ | exact hRL21 _ _ | exact hR17 _ _ | exact hR13 _ _ | exact hR7 _ _ | exact hR2 _ _ | exact hR0 _ _ | assumption | (unfold InR; omega)) dX7_isRight_44 (by decide) (fun h44 => ?_) (fun h44 => ?_)
          · skip
            refine g_aload0 X dX7_isRight_53 ?_
            refine gf_7_rows X i7 (by decide +kernel) dX7_isRight_54 ?_
            refine g_bipush X dX7_isRight_57 (by decide +kernel) ?_
            refine g_icmp_ne (tgt := 68) X (by first | exact hR41 _ _ | exact hRL21 _ _ | exact hR17 _ _ | exact hR13 _ _ | exact hR7 _ _ | exact hR2 _ _ | exact hR0 _ _ | assumption | (unfold InR; omega)) (by first | exact hR41 _ _ | exact hRL21 _ _ | exact hR17 _ _ | exact hR13 _ _ | exact hR7 _ _ | exact hR2 _ _ | exact hR0 _ _ | assumption | (unfold InR; omega)) dX7_isRight_59 (by decide) (fun h59 => ?_) (fun h59 => ?_)
            · skip
              have hst : stR (σ 82) (σ 79 4) (σ1 79 11) 59 (if σ1 79 13 < 7 then 1 else 0) = 0 := by unfold stR; rw [if_pos (by unfold isAc; omega), show (if σ1 79 13 < 7 then (1 : Int) else 0) = 1 from if_pos (by omega), if_neg (by omega)]
              rw [hst, if_neg (by omega)] at c3
              refine g_aload0 X dX7_isRight_68 ?_
              refine g_dup X dX7_isRight_69 rfl ?_
              refine gf_7_spot X i7 (by decide +kernel) dX7_isRight_70 ?_
              refine g_iconst X dX7_isRight_73 ?_
              refine g_iadd X dX7_isRight_74 ?_
              refine gp_7_spot X i7 (by decide +kernel) (by first | exact hR41 _ _ | exact hRL21 _ _ | exact hR17 _ _ | exact hR13 _ _ | exact hR7 _ _ | exact hR2 _ _ | exact hR0 _ _ | assumption | (unfold InR; omega)) dX7_isRight_75 ?_
              refine g_rg (fun hR75 => ?_)
              refine g_st (fun σ2 hσ2 => ?_)
              have m11 : σ2 79 11 = σ1 79 11 + 1 := by rw [hσ2, up_e]
              have hFu : ∀ q k, ¬ (q = 79 ∧ k = 11) → σ2 q k = σ1 q k := fun q k a => by rw [hσ2, up_o a]
              have m13 : σ2 79 13 = σ1 79 13 := hFu _ _ (by omega)
              have m14 : σ2 79 14 = wiS (σ 82) (σ 79 4) := (hFu _ _ (by omega)).trans c4
              have hF2 : F86 σ σ2 := by rw [hσ2]; exact hF.up (by omega)
              have hTX2 := hF2.tx hTX
              have m4 := hF2.T.2
              refine g_aload0 X dX7_isRight_78 ?_
              refine g_I0 X (k_X7_row E hTX2 (by omega) (by omega) (by omega)) gX7_isRight_X7_row rfl (by decide +kernel) (by decide) ob_79 (Nat.le_of_ble_eq_true rfl) dX7_isRight_79 (fun z79 σ79 hz79 hp79 => ?_)
              refine g_rg (fun hR79 => ?_)
              have hq := hp79
              rw [hF2.T.1, hF2.T.2, m11, m13, m14] at hq
              have hr1 := rim (r := σ1 79 13) (by omega) (by omega) (Or.inr rfl) hq (by rw [if_neg (by omega)]; exact c3) c5.symm ⟨fun w j a b c d => by rw [hFu _ _ (by omega)]; exact c6.1 w j a b c d, fun w a b => by rw [hFu _ _ (by omega)]; exact c6.2 w a b⟩
              have hF3 := hF2.tr hq.2.2.2.2.f
              refine g_istore1 X dX7_isRight_82 (by decide) (by first | exact Or.inl rfl | exact Or.inr ⟨_, rfl, rfl⟩) ?_
              refine g_goto (tgt := 21) X dX7_isRight_83 (by decide) ?_
              refine ih21 _ (n - 1) _ (by omega) ?_ ?_ ?_ ?_
              · exact hr1.2.2
              · have := hr1.2.1; omega
              · exact hF3
              · exact hr1.1
            · skip
              have hst : stR (σ 82) (σ 79 4) (σ1 79 11) 59 (if σ1 79 13 < 7 then 1 else 0) = 2 := by unfold stR; rw [if_pos (by unfold isAc; omega), show (if σ1 79 13 < 7 then (1 : Int) else 0) = 0 from if_neg (by omega), if_pos rfl]
              rw [hst, if_pos (by omega)] at c3
              refine g_aload0 X dX7_isRight_62 ?_
              refine g_iconst X dX7_isRight_63 ?_
              refine g_F1 X (k_X7_fails E (by unfold InR; omega)) gX7_isRight_X7_fails rfl (by decide +kernel) (by decide) ob_79 (Nat.le_of_ble_eq_true rfl) dX7_isRight_64 (fun hz64 => ?_)
              refine g_rg (fun hR64 => ?_)
              exact g_zret X hr (by first | exact Or.inl rfl | exact Or.inr rfl | omega) (ir_f rfl c3.symm (by omega) (hF.up (by omega)) (up_o (by omega)) up_e) dX7_isRight_67
          · skip
            have hst : stR (σ 82) (σ 79 4) (σ1 79 11) 59 (if σ1 79 13 < 7 then 1 else 0) = 1 := by unfold stR; rw [if_neg (by unfold isAc; omega)]
            rw [hst, if_pos (by omega)] at c3
            refine g_aload0 X dX7_isRight_47 ?_
            refine g_iconst X dX7_isRight_48 ?_
            refine g_F1 X (k_X7_fails E (by unfold InR; omega)) gX7_isRight_X7_fails rfl (by decide +kernel) (by decide) ob_79 (Nat.le_of_ble_eq_true rfl) dX7_isRight_49 (fun hz49 => ?_)
            refine g_rg (fun hR49 => ?_)
            exact g_zret X hr (by first | exact Or.inl rfl | exact Or.inr rfl | omega) (ir_f rfl c3.symm (by omega) (hF.up (by omega)) (up_o (by omega)) up_e) dX7_isRight_52
  refine L21 _ _ 7 _ (Nat.lt_succ_self _) ?_ ?_ ?_ ?_
  · exact hr1.2.2
  · have := hr1.2.1; omega
  · exact hF1
  · exact hr1.1

set_option maxHeartbeats 4000000 in
set_option maxRecDepth 100000 in
theorem k_X7_fault (E0 : EV) {ad : Int → Nat} {σ : St} {x1 : Int} (hTX : TXM σ) (hx1 : InR x1) : MGE E0 yX7_fault wsX7_fault 6 130 ad σ [.ref (ad 79), .int (iI x1)] (PI (fun z σ' => z = (if 0 ≤ x1 ∧ x1 ≤ 1 then (if (rwR (σ 82) (σ 79 4)).2.2.1 = 0 then -4 else if x1 = 0 then (rwR (σ 82) (σ 79 4)).2.1 else (rwR (σ 82) (σ 79 4)).2.2.1) else -1) ∧ QM σ σ')) := by
  refine MGE.of (cc := cX7_fault) (maxL := 2) (ret := (some .int)) (own := RX7) [some (.ref (ad 79)), some (.int (iI x1))] (by decide +kernel) rfl rfl (Nat.le_of_ble_eq_true rfl) rfl rfl (fun E X hr => ?_)
  have i7 : ∀ w ∈ wsX70, w ∈ wsX7_fault := by decide +kernel
  refine g_rg (fun hR0 => ?_)
  have hc := inB_01 x1 0 1
  refine g_iload1 X dX7_fault_0 ?_
  refine g_iconst X dX7_fault_1 ?_
  refine g_iconst X dX7_fault_2 ?_
  refine g_SF3 X (k_X7_in E (by first | assumption | (unfold InR; omega)) (by first | assumption | (unfold InR; omega)) (by first | assumption | (unfold InR; omega))) gX7_fault_X7_in rfl (by decide +kernel) (by decide) (Nat.le_of_ble_eq_true rfl) dX7_fault_3 (fun hz3 => ?_)
  refine g_rg (fun hR3 => ?_)
  refine g_if_ne (tgt := 11) X (by first | exact hR3 _ _ | exact hR0 _ _ | assumption | (unfold InR; omega)) dX7_fault_6 (by decide) (fun h6 => ?_) (fun h6 => ?_)
  · skip
    refine g_aload0 X dX7_fault_11 ?_
    refine g_I0 X (k_X7_isRight E hTX) gX7_fault_X7_isRight rfl (by decide +kernel) (by decide) ob_79 (Nat.le_of_ble_eq_true rfl) dX7_fault_12 (fun z12 σ12 hz12 hp12 => ?_)
    refine g_rg (fun hR12 => ?_)
    have hz12 := hp12.1
    have hq := hp12.2.1.qm
    have hi := if01 (c := (rwR (σ 82) (σ 79 4)).2.2.1 = 0) (d := inferInstance)
    rw [← hz12] at hi
    refine g_if_eq (tgt := 23) X (by first | exact hR12 _ _ | exact hR3 _ _ | exact hR0 _ _ | assumption | (unfold InR; omega)) dX7_fault_15 (by decide) (fun h15 => ?_) (fun h15 => ?_)
    · skip
      refine g_iload1 X dX7_fault_23 ?_
      refine g_if_ne (tgt := 34) X (by first | exact hR12 _ _ | exact hR3 _ _ | exact hR0 _ _ | assumption | (unfold InR; omega)) dX7_fault_24 (by decide) (fun h24 => ?_) (fun h24 => ?_)
      · skip
        refine g_aload0 X dX7_fault_34 ?_
        refine gf_7_reason X i7 (by decide +kernel) dX7_fault_35 ?_
        exact g_iret X hr (by first | exact hR12 _ _ | exact hR3 _ _ | exact hR0 _ _ | assumption | (unfold InR; omega)) (by first | exact ⟨by rw [if_neg (by omega)], QM.rf⟩ | exact ⟨by rw [if_pos (by omega), if_pos (by omega)], hq⟩ | exact ⟨by rw [if_pos (by omega), if_neg (by omega), if_pos (by omega)]; exact (hp12.2.2.1 (by omega)).1, hq⟩ | exact ⟨by rw [if_pos (by omega), if_neg (by omega), if_neg (by omega)]; exact (hp12.2.2.1 (by omega)).2, hq⟩) dX7_fault_38
      · skip
        refine g_aload0 X dX7_fault_27 ?_
        refine gf_7_spot X i7 (by decide +kernel) dX7_fault_28 ?_
        refine g_goto (tgt := 38) X dX7_fault_31 (by decide) ?_
        exact g_iret X hr (by first | exact hR12 _ _ | exact hR3 _ _ | exact hR0 _ _ | assumption | (unfold InR; omega)) (by first | exact ⟨by rw [if_neg (by omega)], QM.rf⟩ | exact ⟨by rw [if_pos (by omega), if_pos (by omega)], hq⟩ | exact ⟨by rw [if_pos (by omega), if_neg (by omega), if_pos (by omega)]; exact (hp12.2.2.1 (by omega)).1, hq⟩ | exact ⟨by rw [if_pos (by omega), if_neg (by omega), if_neg (by omega)]; exact (hp12.2.2.1 (by omega)).2, hq⟩) dX7_fault_38
    · skip
      refine g_bipush X dX7_fault_18 (by decide +kernel) ?_
      refine g_goto (tgt := 38) X dX7_fault_20 (by decide) ?_
      exact g_iret X hr (by first | exact hR12 _ _ | exact hR3 _ _ | exact hR0 _ _ | assumption | (unfold InR; omega)) (by first | exact ⟨by rw [if_neg (by omega)], QM.rf⟩ | exact ⟨by rw [if_pos (by omega), if_pos (by omega)], hq⟩ | exact ⟨by rw [if_pos (by omega), if_neg (by omega), if_pos (by omega)]; exact (hp12.2.2.1 (by omega)).1, hq⟩ | exact ⟨by rw [if_pos (by omega), if_neg (by omega), if_neg (by omega)]; exact (hp12.2.2.1 (by omega)).2, hq⟩) dX7_fault_38
  · skip
    refine g_iconst X dX7_fault_9 ?_
    exact g_iret X hr (by first | exact hR3 _ _ | exact hR0 _ _ | assumption | (unfold InR; omega)) (by first | exact ⟨by rw [if_neg (by omega)], QM.rf⟩ | exact ⟨by rw [if_pos (by omega), if_pos (by omega)], hq⟩ | exact ⟨by rw [if_pos (by omega), if_neg (by omega), if_pos (by omega)]; exact (hp12.2.2.1 (by omega)).1, hq⟩ | exact ⟨by rw [if_pos (by omega), if_neg (by omega), if_neg (by omega)]; exact (hp12.2.2.1 (by omega)).2, hq⟩) dX7_fault_10

def rdA (σ : St) (W w v t : Int) : St := fun q k => if q = 80 ∧ 2 ≤ k ∧ k < 2 + w then σ 87 (k - 2) else if q = 80 ∧ 9 ≤ k ∧ k < 9 + 7 * v + t then (if (k - 9) % 7 < W then σ 86 (k - 9) else -1) else σ q k
def rdF (σ : St) : St := rdA (up (up (chg σ) 80 0 (σ 79 13)) 80 1 (σ 79 14)) (σ 79 14) (σ 79 13) (σ 79 13) 0
theorem rdF_0 {σ : St} (h : 0 ≤ σ 79 13 ∧ σ 79 13 ≤ 7) : rdF σ 80 0 = σ 79 13 ∧ rdF σ 80 1 = σ 79 14 := by
  unfold rdF rdA
  exact ⟨by rw [if_neg (by omega), if_neg (by omega), up_o (by omega), up_e], by rw [if_neg (by omega), if_neg (by omega), up_e]⟩
theorem rdF_i {σ : St} {w : Int} (h : 0 ≤ σ 79 13 ∧ σ 79 13 ≤ 7) (hw : 0 ≤ w ∧ w < 7) : rdF σ 80 (2 + w) = if w < σ 79 13 then σ 87 w else σ 80 (2 + w) := by
  unfold rdF rdA
  by_cases hc : w < σ 79 13
  · rw [if_pos (by omega), if_pos hc, up_o (by omega), up_o (by omega), chg_o σ (by omega) (by omega), show 2 + w - 2 = w by omega]
  · rw [if_neg (by omega), if_neg (by omega), if_neg hc, up_o (by omega), up_o (by omega), chg_o σ (by omega) (by omega)]
theorem rdF_c {σ : St} {w t : Int} (h : 0 ≤ σ 79 13 ∧ σ 79 13 ≤ 7) (hw : 0 ≤ w ∧ w < 7) (ht : 0 ≤ t ∧ t < 7) : rdF σ 80 (9 + 7 * w + t) = if w < σ 79 13 then (if t < σ 79 14 then σ 86 (7 * w + t) else -1) else σ 80 (9 + 7 * w + t) := by
  unfold rdF rdA
  rw [if_neg (by omega)]
  by_cases hc : w < σ 79 13
  · rw [if_pos (by omega), if_pos hc, show (9 + 7 * w + t - 9) % 7 = t by omega]
    by_cases ht2 : t < σ 79 14
    · rw [if_pos ht2, if_pos ht2, up_o (by omega), up_o (by omega), chg_o σ (by omega) (by omega), show 9 + 7 * w + t - 9 = 7 * w + t by omega]
    · rw [if_neg ht2, if_neg ht2]
  · rw [if_neg (by omega), if_neg hc, up_o (by omega), up_o (by omega), chg_o σ (by omega) (by omega)]
theorem MT.rd {σ : St} {T : Int → Int} {len : Int} (hM : MT (σ 80)) (h0 : 0 ≤ len) (h : 1 ≤ σ 79 13 ∧ σ 79 13 ≤ 7) (hW : σ 79 14 = wiS T len) (hD : RDM T len σ (σ 79 13)) : MT (rdF σ 80) := by
  have hwb := wiS_b (T := T) h0
  obtain ⟨e0, e1⟩ := rdF_0 (σ := σ) (by omega)
  refine ⟨by rw [e0]; omega, by rw [e1, hW]; omega, fun k a b => ?_, fun w t a b c d => ?_⟩
  · rw [rdF_i (by omega) (by omega)]
    by_cases hc : k < σ 79 13
    · rw [if_pos hc, hD.2 k a hc]; exact nV_b
    · rw [if_neg hc]; exact hM.2.2.1 k a b
  · rw [rdF_c (by omega) (by omega) (by omega)]
    by_cases hc : w < σ 79 13
    · rw [if_pos hc]
      by_cases ht : t < σ 79 14
      · rw [if_pos ht, hD.1 w t a hc c (by omega)]; exact enV_b
      · rw [if_neg ht]; omega
    · rw [if_neg hc]; exact hM.2.2.2 w t a b c d
set_option maxHeartbeats 4000000 in
set_option maxRecDepth 100000 in
theorem k_X7_read (E0 : EV) {ad : Int → Nat} {σ : St} (hM : MT (σ 80)) (hP : 0 ≤ σ 79 2 ∧ σ 79 2 ≤ 4) (hTX : TXM σ) : MGE E0 yX7_read wsX7_read 6 130 ad σ [.ref (ad 79)] (PI (fun z σ' => ((rwR (σ 82) (σ 79 4)).2.2.1 ≠ 0 ∧ z = -2 ∧ QM σ σ') ∨ ((rwR (σ 82) (σ 79 4)).2.2.1 = 0 ∧ ∃ σr : St, QM σ σr ∧ σr 79 13 = (rwR (σ 82) (σ 79 4)).1 ∧ (1 ≤ (rwR (σ 82) (σ 79 4)).1 ∧ (rwR (σ 82) (σ 79 4)).1 ≤ 7) ∧ σr 79 14 = wiS (σ 82) (σ 79 4) ∧ RDM (σ 82) (σ 79 4) σr (rwR (σ 82) (σ 79 4)).1 ∧ MT (rdF σr 80) ∧ z = totM (rdF σr) ∧ F83 (rdF σr) σ'))) := by
  refine MGE.of (cc := cX7_read) (maxL := 3) (ret := (some .int)) (own := RX7) [some (.ref (ad 79)), none, none] (by decide +kernel) rfl rfl (Nat.le_of_ble_eq_true rfl) rfl rfl (fun E X hr => ?_)
  have i7 : ∀ w ∈ wsX70, w ∈ wsX7_read := by decide +kernel
  refine g_rg (fun hR0 => ?_)
  have h4 := hTX.1
  have hwS := wiS_b (T := σ 82) (len := σ 79 4) (by omega)
  refine g_aload0 X dX7_read_0 ?_
  refine g_I0 X (k_X7_isRight E hTX) gX7_read_X7_isRight rfl (by decide +kernel) (by decide) ob_79 (Nat.le_of_ble_eq_true rfl) dX7_read_1 (fun z1 σ1 hz1 hp1 => ?_)
  refine g_rg (fun hR1 => ?_)
  have hz1 := hp1.1
  have hF := hp1.2.1
  have hi := if01 (c := (rwR (σ 82) (σ 79 4)).2.2.1 = 0) (d := inferInstance)
  rw [← hz1] at hi
  have f2 : σ1 79 2 = σ 79 2 := hF _ _ (by omega) (by omega) (by omega)
  refine g_if_ne (tgt := 10) X (by first | exact hR1 _ _ | exact hR0 _ _ | assumption | (unfold InR; omega)) dX7_read_4 (by decide) (fun h4 => ?_) (fun h4 => ?_)
  · skip
    have hr0 : (rwR (σ 82) (σ 79 4)).2.2.1 = 0 := by omega
    obtain ⟨r1, r2, r3, r4⟩ := hp1.2.2.2 hr0
    have hM1 : MT (σ1 80) := by rw [show σ1 80 = σ 80 from funext fun k => hF _ _ (by omega) (by omega) (by omega)]; exact hM
    rw [← r1] at r2 r4
    have hMr := MT.rd hM1 (by omega) r2 r3 r4
    refine g_aload0 X dX7_read_10 ?_
    refine g_W0 X (k_X7_changes E (by omega)) gX7_read_X7_changes rfl (by decide +kernel) (by decide) ob_79 (Nat.le_of_ble_eq_true rfl) dX7_read_11 ?_
    refine g_rg (fun hR11 => ?_)
    refine g_aload0 X dX7_read_14 ?_
    refine gf_7_s X i7 (by decide +kernel) dX7_read_15 ?_
    refine g_iconst X dX7_read_18 ?_
    refine g_aload0 X dX7_read_19 ?_
    refine gf_7_rows X i7 (by decide +kernel) dX7_read_20 ?_
    rw [chg_o σ1 (q := 79) (k := 13) (by omega) (by omega)]
    refine g_iast X (ia_80 (by omega)) (by first | exact hR11 _ _ | exact hR1 _ _ | exact hR0 _ _ | assumption | (unfold InR; omega)) dX7_read_23 ?_
    refine g_rg (fun hR23 => ?_)
    refine g_aload0 X dX7_read_24 ?_
    refine gf_7_s X i7 (by decide +kernel) dX7_read_25 ?_
    refine g_iconst X dX7_read_28 ?_
    refine g_aload0 X dX7_read_29 ?_
    refine gf_7_wide X i7 (by decide +kernel) dX7_read_30 ?_
    rw [show up (chg σ1) 80 0 (σ1 79 13) 79 14 = σ1 79 14 from (up_o (by omega)).trans (chg_o σ1 (by omega) (by omega))]
    refine g_iast X (ia_80 (by omega)) (by first | exact hR23 _ _ | exact hR11 _ _ | exact hR1 _ _ | exact hR0 _ _ | assumption | (unfold InR; omega)) dX7_read_33 ?_
    refine g_rg (fun hR33 => ?_)
    refine g_st (fun σc hσc => ?_)
    have c13 : σc 79 13 = σ1 79 13 := by rw [hσc, up_o (by omega), up_o (by omega)]; exact chg_o σ1 (by omega) (by omega)
    have c14 : σc 79 14 = σ1 79 14 := by rw [hσc, up_o (by omega), up_o (by omega)]; exact chg_o σ1 (by omega) (by omega)
    refine g_iconst X dX7_read_34 ?_
    refine g_istore1 X dX7_read_35 (by decide) (by first | exact Or.inl rfl | exact Or.inr ⟨_, rfl, rfl⟩) ?_
    have L36 : ∀ (n36 : Nat) (w : Int) (σ2 : St) (u : Option Value), (8 - w).toNat < n36 → (0 ≤ w ∧ w ≤ σ1 79 13) → (σ2 = rdA σc (σ1 79 14) w w 0) → WG E ad 3 σ2 36 [some (.ref (ad 79)), some (.int (iI w)), u] [] := by
      intro n36
      induction n36 with
      | zero => intro w σ2 u hn; exact absurd hn (Nat.not_lt_zero _)
      | succ n36 ih36 =>
        intro w σ2 u hn36 hw hσ
        refine g_rg (fun hRL36 => ?_)
        subst hσ
        have s13 : rdA σc (σ1 79 14) w w 0 79 13 = σ1 79 13 := by unfold rdA; rw [if_neg (by omega), if_neg (by omega), c13]
        refine g_iload1 X dX7_read_36 ?_
        refine g_aload0 X dX7_read_37 ?_
        refine gf_7_rows X i7 (by decide +kernel) dX7_read_38 ?_
        refine g_icmp_ge (tgt := 115) X (by first | exact hRL36 _ _ | exact hR33 _ _ | exact hR23 _ _ | exact hR11 _ _ | exact hR1 _ _ | exact hR0 _ _ | assumption | (unfold InR; omega)) (by first | exact hRL36 _ _ | exact hR33 _ _ | exact hR23 _ _ | exact hR11 _ _ | exact hR1 _ _ | exact hR0 _ _ | assumption | (unfold InR; omega)) dX7_read_41 (by decide) (fun h41 => ?_) (fun h41 => ?_)
        · skip
          have ew : w = σ1 79 13 := by omega
          have eR : rdA σc (σ1 79 14) w w 0 = rdF σ1 := by rw [ew, hσc]; rfl
          rw [eR]
          refine g_aload0 X dX7_read_115 ?_
          refine g_I0 X (k_X7_leastTotal E hMr) gX7_read_X7_leastTotal rfl (by decide +kernel) (by decide) ob_79 (Nat.le_of_ble_eq_true rfl) dX7_read_116 (fun z116 σ116 hz116 hp116 => ?_)
          refine g_rg (fun hR116 => ?_)
          exact g_iret X hr (by first | exact hR116 _ _ | exact hRL36 _ _ | exact hR33 _ _ | exact hR23 _ _ | exact hR11 _ _ | exact hR1 _ _ | exact hR0 _ _ | assumption | (unfold InR; omega)) (Or.inr ⟨hr0, σ1, hF.qm, r1, by omega, r3, by rw [← r1]; exact r4, hMr, hp116.1, hp116.2⟩) dX7_read_119
        · skip
          refine g_aload0 X dX7_read_44 ?_
          refine gf_7_s X i7 (by decide +kernel) dX7_read_45 ?_
          refine g_iconst X dX7_read_48 ?_
          refine g_iload1 X dX7_read_49 ?_
          refine g_iadd X dX7_read_50 ?_
          refine g_aload0 X dX7_read_51 ?_
          refine gf_7_rests X i7 (by decide +kernel) dX7_read_52 ?_
          refine g_iload1 X dX7_read_55 ?_
          refine g_iald X (ia_87 (by omega)) dX7_read_56 ?_
          refine g_iast X (ia_80 (by omega)) (by first | exact hRL36 _ _ | exact hR33 _ _ | exact hR23 _ _ | exact hR11 _ _ | exact hR1 _ _ | exact hR0 _ _ | assumption | (unfold InR; omega)) dX7_read_57 ?_
          refine g_rg (fun hR57 => ?_)
          refine g_iconst X dX7_read_58 ?_
          refine g_istore2 X dX7_read_59 (by decide) (by first | exact Or.inl rfl | exact Or.inr ⟨_, rfl, rfl⟩) ?_
          have L60 : ∀ (n60 : Nat) (t : Int) (σ3 : St), (7 - t).toNat < n60 → (0 ≤ t ∧ t ≤ 7) → (σ3 = rdA σc (σ1 79 14) (w + 1) w t) → WG E ad 3 σ3 60 [some (.ref (ad 79)), some (.int (iI w)), some (.int (iI t))] [] := by
            intro n60
            induction n60 with
            | zero => intro t σ3 hn; exact absurd hn (Nat.not_lt_zero _)
            | succ n60 ih60 =>
              intro t σ3 hn60 ht hτ
              refine g_rg (fun hRL60 => ?_)
              subst hτ
              have s14 : rdA σc (σ1 79 14) (w + 1) w t 79 14 = σ1 79 14 := by unfold rdA; rw [if_neg (by omega), if_neg (by omega), c14]
              have s86 : σc 86 (7 * w + t) = rdA σc (σ1 79 14) (w + 1) w t 86 (7 * w + t) := by unfold rdA; rw [if_neg (by omega), if_neg (by omega)]
              refine g_iload2 X dX7_read_60 ?_
              refine g_bipush X dX7_read_61 (by decide +kernel) ?_
              refine g_icmp_ge (tgt := 109) X (by first | exact hRL60 _ _ | exact hR57 _ _ | exact hRL36 _ _ | exact hR33 _ _ | exact hR23 _ _ | exact hR11 _ _ | exact hR1 _ _ | exact hR0 _ _ | assumption | (unfold InR; omega)) (by first | exact hRL60 _ _ | exact hR57 _ _ | exact hRL36 _ _ | exact hR33 _ _ | exact hR23 _ _ | exact hR11 _ _ | exact hR1 _ _ | exact hR0 _ _ | assumption | (unfold InR; omega)) dX7_read_63 (by decide) (fun h63 => ?_) (fun h63 => ?_)
              · skip
                refine g_iinc1 X dX7_read_109 (by decide) (by first | exact Or.inl rfl | exact Or.inr ⟨_, rfl, rfl⟩) ?_
                refine g_goto (tgt := 36) X dX7_read_112 (by decide) ?_
                refine ih36 _ _ _ (by omega) ?_ ?_
                · omega
                · rw [show t = 7 by omega]
                  funext q j
                  unfold rdA
                  repeat' split
                  all_goals first | rfl | omega | exact st_c (by omega) (by omega) | (exfalso; omega)
              · skip
                refine g_aload0 X dX7_read_66 ?_
                refine gf_7_s X i7 (by decide +kernel) dX7_read_67 ?_
                refine g_bipush X dX7_read_70 (by decide +kernel) ?_
                refine g_bipush X dX7_read_72 (by decide +kernel) ?_
                refine g_iload1 X dX7_read_74 ?_
                refine g_imul X dX7_read_75 ?_
                refine g_iadd X dX7_read_76 ?_
                refine g_iload2 X dX7_read_77 ?_
                refine g_iadd X dX7_read_78 ?_
                have J102 : ∀ v : Int, v = (if t < σ1 79 14 then σc 86 (7 * w + t) else -1) → WG E ad 3 (rdA σc (σ1 79 14) (w + 1) w t) 102 [some (.ref (ad 79)), some (.int (iI w)), some (.int (iI t))] [.int (iI v), .int (iI (9 + 7 * w + t)), .ref (ad 80)] := by
                  intro v hv
                  have hvI : InR v := by
                    rw [hv]; by_cases h : t < σ1 79 14
                    · rw [if_pos h, s86]; exact hRL60 _ _
                    · rw [if_neg h]; unfold InR; omega
                  refine g_iast X (ia_80 (by omega)) (by first | exact hRL60 _ _ | exact hR57 _ _ | exact hRL36 _ _ | exact hR33 _ _ | exact hR23 _ _ | exact hR11 _ _ | exact hR1 _ _ | exact hR0 _ _ | assumption | (unfold InR; omega)) dX7_read_102 ?_
                  refine g_rg (fun hR102 => ?_)
                  refine g_iinc2 X dX7_read_103 (by decide) (by first | exact Or.inl rfl | exact Or.inr ⟨_, rfl, rfl⟩) ?_
                  refine g_goto (tgt := 60) X dX7_read_106 (by decide) ?_
                  refine ih60 _ _ (by omega) ?_ ?_
                  · omega
                  · funext q j
                    by_cases hqj : q = 80 ∧ j = 9 + 7 * w + t
                    · obtain ⟨rfl, rfl⟩ := hqj
                      rw [up_e]; unfold rdA; rw [if_neg (by omega), if_pos (by omega), show 9 + 7 * w + t - 9 = 7 * w + t by omega, show (7 * w + t) % 7 = t by omega]; exact hv
                    · rw [up_o hqj]; unfold rdA
                      repeat' split
                      all_goals first | rfl | omega
                refine g_iload2 X dX7_read_79 ?_
                refine g_aload0 X dX7_read_80 ?_
                refine gf_7_wide X i7 (by decide +kernel) dX7_read_81 ?_
                refine g_icmp_ge (tgt := 101) X (by first | exact hRL60 _ _ | exact hR57 _ _ | exact hRL36 _ _ | exact hR33 _ _ | exact hR23 _ _ | exact hR11 _ _ | exact hR1 _ _ | exact hR0 _ _ | assumption | (unfold InR; omega)) (by first | exact hRL60 _ _ | exact hR57 _ _ | exact hRL36 _ _ | exact hR33 _ _ | exact hR23 _ _ | exact hR11 _ _ | exact hR1 _ _ | exact hR0 _ _ | assumption | (unfold InR; omega)) dX7_read_84 (by decide) (fun h84 => ?_) (fun h84 => ?_)
                · skip
                  refine g_iconst X dX7_read_101 ?_
                  first | exact J102 _ (by rw [if_pos (by omega)]; exact s86.symm) | exact J102 _ (by rw [if_neg (by omega)])
                · skip
                  refine g_aload0 X dX7_read_87 ?_
                  refine gf_7_told X i7 (by decide +kernel) dX7_read_88 ?_
                  refine g_bipush X dX7_read_91 (by decide +kernel) ?_
                  refine g_iload1 X dX7_read_93 ?_
                  refine g_imul X dX7_read_94 ?_
                  refine g_iload2 X dX7_read_95 ?_
                  refine g_iadd X dX7_read_96 ?_
                  refine g_iald X (ia_86 (by omega)) dX7_read_97 ?_
                  refine g_goto (tgt := 102) X dX7_read_98 (by decide) ?_
                  first | exact J102 _ (by rw [if_pos (by omega)]; exact s86.symm) | exact J102 _ (by rw [if_neg (by omega)])
          refine L60 _ _ _ (Nat.lt_succ_self _) ?_ ?_
          · omega
          · funext q j
            unfold up rdA
            repeat' split
            all_goals first | rfl | omega | exact st_c (by omega) (by omega) | (exfalso; omega)
    refine L36 _ _ _ _ (Nat.lt_succ_self _) ?_ ?_
    · omega
    · funext q j
      unfold rdA
      repeat' split
      all_goals first | rfl | omega | exact st_c (by omega) (by omega) | (exfalso; omega)
  · skip
    refine g_bipush X dX7_read_7 (by decide +kernel) ?_
    exact g_iret X hr (by first | exact hR1 _ _ | exact hR0 _ _ | assumption | (unfold InR; omega)) (Or.inl ⟨by omega, rfl, hF.qm⟩) dX7_read_9
