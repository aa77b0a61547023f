/-! MY CONTRACTS: the reference's rows of texts -/
theorem row_A {T : Int → Int} {len r w p n q e : Int} (hE : esR T len (rMo r w) p = (n, q, e)) (he : e ≠ 0) : roR T len r w p = e ∧ roP T len r w p = q := by
  unfold roR roP
  rw [hE]
  exact ⟨if_pos he, if_pos he⟩
theorem row_B {T : Int → Int} {len r w p n q e : Int} (hE : esR T len (rMo r w) p = (n, q, 0)) (h : stR T len q 47 (rFi r w n) = e) (he : e ≠ 0) : roR T len r w p = e ∧ roP T len r w p = q := by
  unfold roR roP rsR rsP
  rw [hE]
  simp only [ne_eq, not_true_eq_false, if_false]
  rw [h, if_pos he, if_pos he]
  refine ⟨rfl, ?_⟩
  unfold stR at h
  unfold stP
  by_cases h1 : isAc T len q 47
  · rw [if_pos h1] at h
    by_cases h2 : rFi r w n = 0
    · rw [if_neg (fun h3 => h3.2 h2)]
    · rw [if_neg h2] at h; exact absurd h.symm he
  · rw [if_neg (fun h3 => h1 h3.1)]
theorem row_C {T : Int → Int} {len r w p n q : Int} (hE : esR T len (rMo r w) p = (n, q, 0)) (h1 : isAc T len q 47) (h2 : rFi r w n = 1) : roR T len r w p = nR T len (q + 1) ∧ roP T len r w p = nP T len (q + 1) ∧ roN T len r w p = n ∧ rsP T len r w p = q + 1 := by
  have hs : stR T len q 47 (rFi r w n) = 0 := by unfold stR; rw [if_pos h1, if_neg (by omega)]
  have hp : stP T len q 47 (rFi r w n) = q + 1 := by unfold stP; rw [if_pos ⟨h1, by omega⟩]
  unfold roR roP roN rsR rsP
  rw [hE]
  simp only [ne_eq, not_true_eq_false, if_false]
  rw [hs, hp]
  simp
theorem rFi_01 (r w n : Int) : (rFi r w n = 1 ∧ (r = 0 ∨ n = w)) ∨ (rFi r w n = 0 ∧ ¬ (r = 0 ∨ n = w)) := if01
def FRw (σ σ' : St) (r n : Int) : Prop := ∀ q k, ¬ (q = 79 ∧ (k = 11 ∨ k = 12 ∨ k = 15)) → ¬ (q = 86 ∧ 7 * r ≤ k ∧ k < 7 * r + n) → σ' q k = σ q k
theorem FRw.tx {σ σ' : St} {r n : Int} (h : FRw σ σ' r n) (hT : TXM σ) : TXM σ' := hT.of (h _ _ (by omega) (by omega)) (fun k => h _ _ (by omega) (by omega))
theorem FRw.T {σ σ' : St} {r n : Int} (h : FRw σ σ' r n) : σ' 82 = σ 82 ∧ σ' 79 4 = σ 79 4 := ⟨funext fun k => h _ _ (by omega) (by omega), h _ _ (by omega) (by omega)⟩
theorem FRw.f3 {σ σ' σ'' : St} {r n : Int} (h : FRw σ σ' r n) (h2 : F3 σ' σ'') : FRw σ σ'' r n := fun q k a b => (h2 q k a).trans (h q k a b)
theorem FRw.up {σ σ' : St} {r n : Int} (h : FRw σ σ' r n) {k v : Int} (hk : k = 11 ∨ k = 12 ∨ k = 15) : FRw σ (up σ' 79 k v) r n := fun q j a b => by
  rw [up_o (by omega)]; exact h q j a b
def FRo (σ σ' : St) (r : Int) : Prop := ∀ q k, ¬ (q = 79 ∧ 11 ≤ k ∧ k ≤ 15) → ¬ (q = 86 ∧ 7 * r ≤ k ∧ k < 7 * r + 7) → ¬ (q = 87 ∧ k = r) → σ' q k = σ q k
theorem FRw.ro {σ σ' : St} {r n : Int} (h : FRw σ σ' r n) (hn : n ≤ 7) : FRo σ σ' r := fun q k a b c => h q k (by omega) (by omega)
/-- a row of a text, as the reference reads it -/
def PRow (T : Int → Int) (len r w p : Int) (σ : St) (z : Int) (σ' : St) : Prop := z = (if roR T len r w p = 0 then 1 else 0) ∧ σ' 79 11 = roP T len r w p ∧ (roR T len r w p ≠ 0 → σ' 79 12 = roR T len r w p) ∧
  (roR T len r w p = 0 → σ' 79 13 = r + 1 ∧ σ' 79 14 = roN T len r w p ∧ (∀ j, 0 ≤ j → j < roN T len r w p → σ' 86 (7 * r + j) = enV T len (plS T len p j)) ∧ σ' 87 r = nV T len (rsP T len r w p)) ∧ FRo σ σ' r
theorem PRow.f {T : Int → Int} {len r w p e q : Int} {σ σ' : St} (h : roR T len r w p = e ∧ roP T len r w p = q) (he : e ≠ 0) (h11 : σ' 79 11 = q) (h12 : σ' 79 12 = e) (hF : FRo σ σ' r) : PRow T len r w p σ 0 σ' :=
  ⟨by rw [h.1, if_neg he], by rw [h.2, h11], fun _ => by rw [h.1, h12], fun h0 => absurd (h.1.symm.trans h0) he, hF⟩
set_option maxHeartbeats 4000000 in
set_option maxRecDepth 100000 in
theorem k_X7_row (E0 : EV) {ad : Int → Nat} {σ : St} (hTX : TXM σ) (hS : 0 ≤ σ 79 11 ∧ σ 79 11 ≤ σ 79 4) (hr0 : 0 ≤ σ 79 13 ∧ σ 79 13 < 7) (hw0 : σ 79 13 = 0 ∨ (1 ≤ σ 79 14 ∧ σ 79 14 ≤ 7)) : MGE E0 yX7_row wsX7_row 4 86 ad σ [.ref (ad 79)] (PI (fun z σ' => PRow (σ 82) (σ 79 4) (σ 79 13) (σ 79 14) (σ 79 11) σ z σ')) := by
  refine MGE.of (cc := cX7_row) (maxL := 4) (ret := (some .boolean)) (own := RX7) [some (.ref (ad 79)), none, none, none] (by decide +kernel) rfl rfl (Nat.le_of_ble_eq_true rfl) rfl rfl (fun E X hr => ?_)
  have i7 : ∀ w ∈ wsX70, w ∈ wsX7_row := by decide +kernel
  refine g_rg (fun hR0 => ?_)
  have h4 := hTX.1
  have J16 : ∀ M : Int, M = rMo (σ 79 13) (σ 79 14) → WG E ad 4 σ 16 [some (.ref (ad 79)), none, none, none] [.int (iI M)] := by
    intro M hM
    have hMb : 1 ≤ M ∧ M ≤ 7 ∧ (σ 79 13 ≠ 0 → M = σ 79 14) := by
      rw [hM]; unfold rMo
      by_cases h : σ 79 13 = 0
      · rw [if_pos h]; omega
      · rw [if_neg h]; omega
    refine g_istore1 X dX7_row_16 (by decide) (by first | exact Or.inl rfl | exact Or.inr ⟨_, rfl, rfl⟩) ?_
    refine g_iconst X dX7_row_17 ?_
    refine g_istore2 X dX7_row_18 (by decide) (by first | exact Or.inl rfl | exact Or.inr ⟨_, rfl, rfl⟩) ?_
    refine g_iconst X dX7_row_19 ?_
    refine g_istore3 X dX7_row_20 (by decide) (by first | exact Or.inl rfl | exact Or.inr ⟨_, rfl, rfl⟩) ?_
    have L21 : ∀ (n21 : Nat) (n b : Int) (σ1 : St), (8 - n).toNat < n21 → (0 ≤ n ∧ n ≤ M) → (FRw σ σ1 (σ 79 13) n) → (0 ≤ σ1 79 11 ∧ σ1 79 11 ≤ σ 79 4) → (∀ j, 0 ≤ j → j < n → σ1 86 (7 * σ 79 13 + j) = enV (σ 82) (σ 79 4) (plS (σ 82) (σ 79 4) (σ 79 11) j)) → (((b = 1 ∧ n < M ∧ esG (σ 82) (σ 79 4) M (M - n).toNat n (σ1 79 11) = esR (σ 82) (σ 79 4) M (σ 79 11) ∧ σ1 79 11 = plS (σ 82) (σ 79 4) (σ 79 11) n) ∨ (b = 0 ∧ 1 ≤ n ∧ n ≤ M ∧ esR (σ 82) (σ 79 4) M (σ 79 11) = (n, σ1 79 11, 0) ∧ ¬ (isAc (σ 82) (σ 79 4) (σ1 79 11) 47 ∧ 0 < σ 79 13 ∧ n < σ 79 14)))) → WG E ad 4 σ1 21 [some (.ref (ad 79)), some (.int (iI M)), some (.int (iI n)), some (.int (iI b))] [] := by
      intro n21
      induction n21 with
      | zero => intro n b σ1 hn; exact absurd hn (Nat.not_lt_zero _)
      | succ n21 ih21 =>
        intro n b σ1 hn21 hn hF hs hc hb
        refine g_rg (fun hRL21 => ?_)
        have e82 := hF.T.1
        have e4 := hF.T.2
        refine g_iload3 X dX7_row_21 ?_
        refine g_if_eq (tgt := 126) X (by first | exact hRL21 _ _ | exact hR0 _ _ | assumption | (unfold InR; omega)) dX7_row_22 (by decide) (fun h22 => ?_) (fun h22 => ?_)
        · skip
          have hb0 : 1 ≤ n ∧ n ≤ M ∧ esR (σ 82) (σ 79 4) M (σ 79 11) = (n, σ1 79 11, 0) ∧ ¬ (isAc (σ 82) (σ 79 4) (σ1 79 11) 47 ∧ 0 < σ 79 13 ∧ n < σ 79 14) := by
            rcases hb with h | h
            · exact absurd h.1 (by omega)
            · exact h.2
          have hE := hb0.2.2.1
          rw [hM] at hE
          have i47 := iaM_01 σ1 47 47
          rw [e4, e82] at i47
          have hrf := rFi_01 (σ 79 13) (σ 79 14) n
          refine g_aload0 X dX7_row_126 ?_
          refine g_bipush X dX7_row_127 (by decide +kernel) ?_
          refine g_bipush X dX7_row_129 (by decide +kernel) ?_
          refine g_F2 X (k_X7_isAt E (hF.tx hTX) (by omega) (by omega) (by omega)) gX7_row_X7_isAt rfl (by decide +kernel) (by decide) ob_79 (Nat.le_of_ble_eq_true rfl) dX7_row_131 (fun hz131 => ?_)
          refine g_rg (fun hR131 => ?_)
          refine g_if_ne (tgt := 143) X (by first | exact hR131 _ _ | exact hRL21 _ _ | exact hR0 _ _ | assumption | (unfold InR; omega)) dX7_row_134 (by decide) (fun h134 => ?_) (fun h134 => ?_)
          · skip
            have hac : isAc (σ 82) (σ 79 4) (σ1 79 11) 47 := by unfold isAc; omega
            have hrf1 : rFi (σ 79 13) (σ 79 14) n = 1 := by
              have h9 := hb0.2.2.2
              have h8 : ¬ (0 < σ 79 13 ∧ n < σ 79 14) := fun h => h9 ⟨hac, h⟩
              omega
            have hC := row_C hE hac hrf1
            refine g_aload0 X dX7_row_143 ?_
            refine g_dup X dX7_row_144 rfl ?_
            refine gf_7_spot X i7 (by decide +kernel) dX7_row_145 ?_
            refine g_iconst X dX7_row_148 ?_
            refine g_iadd X dX7_row_149 ?_
            refine gp_7_spot X i7 (by decide +kernel) (by first | exact hR131 _ _ | exact hRL21 _ _ | exact hR0 _ _ | assumption | (unfold InR; omega)) dX7_row_150 ?_
            refine g_rg (fun hR150 => ?_)
            refine g_aload0 X dX7_row_153 ?_
            refine g_iload2 X dX7_row_154 ?_
            refine gp_7_wide X i7 (by decide +kernel) (by first | exact hR150 _ _ | exact hR131 _ _ | exact hRL21 _ _ | exact hR0 _ _ | assumption | (unfold InR; omega)) dX7_row_155 ?_
            refine g_rg (fun hR155 => ?_)
            refine g_st (fun σ2 hσ2 => ?_)
            have k11 : σ2 79 11 = σ1 79 11 + 1 := by rw [hσ2, up_o (by omega), up_e]
            have k14 : σ2 79 14 = n := by rw [hσ2, up_e]
            have hF2 : ∀ q k, ¬ (q = 79 ∧ (k = 11 ∨ k = 14)) → σ2 q k = σ1 q k := fun q k a => by rw [hσ2, up_o (by omega), up_o (by omega)]
            have hTX2 : TXM σ2 := (hF.tx hTX).of (hF2 _ _ (by omega)) (fun k => hF2 _ _ (by omega))
            have k82 : σ2 82 = σ 82 := (funext fun k => hF2 _ _ (by omega)).trans e82
            have k4 : σ2 79 4 = σ 79 4 := (hF2 _ _ (by omega)).trans e4
            refine g_aload0 X dX7_row_158 ?_
            refine g_I0 X (k_X7_number E hTX2 (by omega)) gX7_row_X7_number rfl (by decide +kernel) (by decide) ob_79 (Nat.le_of_ble_eq_true rfl) dX7_row_159 (fun z159 σ159 hz159 hp159 => ?_)
            refine g_rg (fun hR159 => ?_)
            have hq9 := hp159
            rw [k82, k4, k11] at hq9
            have hz9 := hq9.1
            have hnb := nR_b (T := σ 82) (len := σ 79 4) (p := σ1 79 11 + 1)
            have m13 : σ159 79 13 = σ 79 13 := (hq9.2.2.2.2 _ _ (by omega)).trans ((hF2 _ _ (by omega)).trans (hF _ _ (by omega) (by omega)))
            have hFa : ∀ q k, ¬ (q = 79 ∧ 11 ≤ k ∧ k ≤ 15) → ¬ (q = 86 ∧ 7 * σ 79 13 ≤ k ∧ k < 7 * σ 79 13 + 7) → σ159 q k = σ q k := fun q k a b9 => (hq9.2.2.2.2 q k (by omega)).trans ((hF2 q k (by omega)).trans (hF q k (by omega) (by omega)))
            refine g_if_ne (tgt := 167) X (by first | exact hR159 _ _ | exact hR155 _ _ | exact hR150 _ _ | exact hR131 _ _ | exact hRL21 _ _ | exact hR0 _ _ | assumption | (unfold InR; omega)) dX7_row_162 (by decide) (fun h162 => ?_) (fun h162 => ?_)
            · skip
              refine g_aload0 X dX7_row_167 ?_
              refine gf_7_rests X i7 (by decide +kernel) dX7_row_168 ?_
              refine g_aload0 X dX7_row_171 ?_
              refine gf_7_rows X i7 (by decide +kernel) dX7_row_172 ?_
              refine g_aload0 X dX7_row_175 ?_
              refine gf_7_value X i7 (by decide +kernel) dX7_row_176 ?_
              refine g_iast X (ia_87 (by omega)) (by first | exact hR159 _ _ | exact hR155 _ _ | exact hR150 _ _ | exact hR131 _ _ | exact hRL21 _ _ | exact hR0 _ _ | assumption | (unfold InR; omega)) dX7_row_179 ?_
              refine g_rg (fun hR179 => ?_)
              refine g_aload0 X dX7_row_180 ?_
              refine g_dup X dX7_row_181 rfl ?_
              refine gf_7_rows X i7 (by decide +kernel) dX7_row_182 ?_
              refine g_iconst X dX7_row_185 ?_
              refine g_iadd X dX7_row_186 ?_
              have m13b : up σ159 87 (σ159 79 13) (σ159 79 15) 79 13 = σ 79 13 := (up_o (by omega)).trans m13
              refine gp_7_rows X i7 (by decide +kernel) (by first | exact hR179 _ _ | exact hR159 _ _ | exact hR155 _ _ | exact hR150 _ _ | exact hR131 _ _ | exact hRL21 _ _ | exact hR0 _ _ | assumption | (unfold InR; omega)) dX7_row_187 ?_
              refine g_rg (fun hR187 => ?_)
              refine g_iconst X dX7_row_190 ?_
              exact g_zret X hr (by first | exact Or.inl rfl | exact Or.inr rfl | omega) (by
    have hr9 : roR (σ 82) (σ 79 4) (σ 79 13) (σ 79 14) (σ 79 11) = 0 := hC.1.trans (by omega)
    refine ⟨by rw [if_pos hr9], ?_, fun h => absurd hr9 h, fun _ => ⟨?_, ?_, fun j a b9 => ?_, ?_⟩, fun q k a b9 c9 => ?_⟩
    · rw [up_o (by omega), up_o (by omega), hq9.2.1, hC.2.1]
    · rw [up_e, up_o (by omega), m13]
    · rw [up_o (by omega), up_o (by omega), hC.2.2.1, hq9.2.2.2.2 _ _ (by omega), k14]
    · rw [hC.2.2.1] at b9; rw [up_o (by omega), up_o (by omega), hq9.2.2.2.2 _ _ (by omega), hF2 _ _ (by omega)]; exact hc j a b9
    · rw [up_o (by omega), m13, up_e, hq9.2.2.1 (by omega), hC.2.2.2]
    · rw [up_o (by omega), up_o (by omega)]; exact hFa q k a b9) dX7_row_191
            · skip
              refine g_iconst X dX7_row_165 ?_
              exact g_zret X hr (by first | exact Or.inl rfl | exact Or.inr rfl | omega) (PRow.f (e := 1) ⟨hC.1.trans (by omega), hC.2.1⟩ (by omega) hq9.2.1 (hq9.2.2.2.1 (by omega)) (fun q k a b9 _ => hFa q k a b9)) dX7_row_166
          · skip
            refine g_aload0 X dX7_row_137 ?_
            refine g_iconst X dX7_row_138 ?_
            refine g_F1 X (k_X7_fails E (by unfold InR; omega)) gX7_row_X7_fails rfl (by decide +kernel) (by decide) ob_79 (Nat.le_of_ble_eq_true rfl) dX7_row_139 (fun hz139 => ?_)
            refine g_rg (fun hR139 => ?_)
            exact g_zret X hr (by first | exact Or.inl rfl | exact Or.inr rfl | omega) (PRow.f (row_B (e := 1) hE (by unfold stR; rw [if_neg (by unfold isAc; omega)]) (by omega)) (by omega) (up_o (by omega)) up_e ((hF.up (by omega)).ro (by omega))) dX7_row_142
        · skip
          have hb25 : b = 1 ∧ n < M ∧ esG (σ 82) (σ 79 4) M (M - n).toNat n (σ1 79 11) = esR (σ 82) (σ 79 4) M (σ 79 11) ∧ σ1 79 11 = plS (σ 82) (σ 79 4) (σ 79 11) n := by
            rcases hb with h | h
            · exact h
            · exact absurd h.1 (by omega)
          refine g_aload0 X dX7_row_25 ?_
          refine g_I0 X (k_X7_entry E (hF.tx hTX) (by omega)) gX7_row_X7_entry rfl (by decide +kernel) (by decide) ob_79 (Nat.le_of_ble_eq_true rfl) dX7_row_26 (fun z26 σ26 hz26 hp26 => ?_)
          refine g_rg (fun hR26 => ?_)
          have hq26 := hp26
          rw [e82, e4] at hq26
          have hF26 : FRw σ σ26 (σ 79 13) n := hF.f3 hq26.2.2.2.2
          have hz26 := hq26.1
          have heb := enR_b (T := σ 82) (len := σ 79 4) (p := σ1 79 11)
          have f13 : σ26 79 13 = σ 79 13 := hF26 _ _ (by omega) (by omega)
          refine g_if_ne (tgt := 34) X (by first | exact hR26 _ _ | exact hRL21 _ _ | exact hR0 _ _ | assumption | (unfold InR; omega)) dX7_row_29 (by decide) (fun h29 => ?_) (fun h29 => ?_)
          · skip
            refine g_aload0 X dX7_row_34 ?_
            refine gf_7_told X i7 (by decide +kernel) dX7_row_35 ?_
            refine g_bipush X dX7_row_38 (by decide +kernel) ?_
            refine g_aload0 X dX7_row_40 ?_
            refine gf_7_rows X i7 (by decide +kernel) dX7_row_41 ?_
            refine g_imul X dX7_row_44 ?_
            refine g_iload2 X dX7_row_45 ?_
            refine g_iadd X dX7_row_46 ?_
            refine g_aload0 X dX7_row_47 ?_
            refine gf_7_value X i7 (by decide +kernel) dX7_row_48 ?_
            refine g_iast X (ia_86 (by omega)) (by first | exact hR26 _ _ | exact hRL21 _ _ | exact hR0 _ _ | assumption | (unfold InR; omega)) dX7_row_51 ?_
            refine g_rg (fun hR51 => ?_)
            have hE0 : enR (σ 82) (σ 79 4) (σ1 79 11) = 0 := by have := enR_b (T := σ 82) (len := σ 79 4) (p := σ1 79 11); omega
            refine g_st (fun σ3 hσ3 => ?_)
            have g11 : σ3 79 11 = enP (σ 82) (σ 79 4) (σ1 79 11) := by rw [hσ3, up_o (by omega)]; exact hq26.2.1
            have hF3 : FRw σ σ3 (σ 79 13) (n + 1) := fun q k a b9 => by
              rw [hσ3, up_o (by omega)]; exact hF26 q k a (by omega)
            have hc3 : ∀ j, 0 ≤ j → j < n + 1 → σ3 86 (7 * σ 79 13 + j) = enV (σ 82) (σ 79 4) (plS (σ 82) (σ 79 4) (σ 79 11) j) := fun j a b9 => by
              by_cases hj : j = n
              · rw [hσ3, hj, f13, up_e, hq26.2.2.1 hE0, hb25.2.2.2]
              · rw [hσ3, up_o (by omega), hq26.2.2.2.2 _ _ (by omega)]; exact hc j a (by omega)
            have hTX3 := hF3.tx hTX
            have g4 := hF3.T.2
            have g82 := hF3.T.1
            have i44 := iaM_01 σ3 44 44
            have i47 := iaM_01 σ3 47 47
            rw [g4, g82, g11] at i44
            rw [g4, g82] at i47
            have i82 : σ 82 (σ3 79 11) = σ 82 (enP (σ 82) (σ 79 4) (σ1 79 11)) := by rw [g11]
            have hPb := enP_b (T := σ 82) (len := σ 79 4) (p := σ1 79 11) hs.2
            have g13 : σ3 79 13 = σ 79 13 := hF3 _ _ (by omega) (by omega)
            have g14 : σ3 79 14 = σ 79 14 := hF3 _ _ (by omega) (by omega)
            have hes := esG_s (T := σ 82) (len := σ 79 4) (most := M) (n := n) (p := σ1 79 11) hb25.2.1
            rw [hb25.2.2.1, if_neg (by omega)] at hes
            have hEc : iaM σ3 44 44 = 1 → n + 1 = M → esR (σ 82) (σ 79 4) M (σ 79 11) = (n + 1, σ3 79 11, 2) := fun h1 h2 => by
              rw [hes, if_pos (by unfold isAc; omega), if_neg (by omega), g11]
            have hEd : iaM σ3 44 44 = 1 → n + 1 ≠ M → esG (σ 82) (σ 79 4) M (M - (n + 1)).toNat (n + 1) (σ3 79 11 + 1) = esR (σ 82) (σ 79 4) M (σ 79 11) := fun h1 h2 => by
              rw [hes, if_pos (by unfold isAc; omega), if_pos (by omega), g11]
            have hEe : iaM σ3 44 44 = 0 → esR (σ 82) (σ 79 4) M (σ 79 11) = (n + 1, σ3 79 11, 0) := fun h1 => by
              rw [hes, if_neg (by unfold isAc; omega), g11]
            have hspl : σ3 79 11 + 1 = plS (σ 82) (σ 79 4) (σ 79 11) (n + 1) := by rw [plS_s (by omega), ← hb25.2.2.2, g11]
            refine g_iinc2 X dX7_row_52 (by decide) (by first | exact Or.inl rfl | exact Or.inr ⟨_, rfl, rfl⟩) ?_
            refine g_aload0 X dX7_row_55 ?_
            refine g_bipush X dX7_row_56 (by decide +kernel) ?_
            refine g_bipush X dX7_row_58 (by decide +kernel) ?_
            refine g_F2 X (k_X7_isAt E hTX3 (by omega) (by omega) (by omega)) gX7_row_X7_isAt rfl (by decide +kernel) (by decide) ob_79 (Nat.le_of_ble_eq_true rfl) dX7_row_60 (fun hz60 => ?_)
            refine g_rg (fun hR60 => ?_)
            refine g_istore3 X dX7_row_63 (by decide) (by first | exact Or.inl rfl | exact Or.inr ⟨_, rfl, rfl⟩) ?_
            refine g_iload3 X dX7_row_64 ?_
            refine g_if_eq (tgt := 73) X (by first | exact hR60 _ _ | exact hR51 _ _ | exact hR26 _ _ | exact hRL21 _ _ | exact hR0 _ _ | assumption | (unfold InR; omega)) dX7_row_65 (by decide) (fun h65 => ?_) (fun h65 => ?_)
            · skip
              refine g_aload0 X dX7_row_73 ?_
              refine g_bipush X dX7_row_74 (by decide +kernel) ?_
              refine g_bipush X dX7_row_76 (by decide +kernel) ?_
              refine g_F2 X (k_X7_isAt E hTX3 (by omega) (by omega) (by omega)) gX7_row_X7_isAt rfl (by decide +kernel) (by decide) ob_79 (Nat.le_of_ble_eq_true rfl) dX7_row_78 (fun hz78 => ?_)
              refine g_rg (fun hR78 => ?_)
              refine g_if_eq (tgt := 105) X (by first | exact hR78 _ _ | exact hR60 _ _ | exact hR51 _ _ | exact hR26 _ _ | exact hRL21 _ _ | exact hR0 _ _ | assumption | (unfold InR; omega)) dX7_row_81 (by decide) (fun h81 => ?_) (fun h81 => ?_)
              · skip
                refine g_aload0 X dX7_row_105 ?_
                refine g_dup X dX7_row_106 rfl ?_
                refine gf_7_spot X i7 (by decide +kernel) dX7_row_107 ?_
                refine g_iload3 X dX7_row_110 ?_
                refine g_if_eq (tgt := 118) X (by first | exact hR78 _ _ | exact hR60 _ _ | exact hR51 _ _ | exact hR26 _ _ | exact hRL21 _ _ | exact hR0 _ _ | assumption | (unfold InR; omega)) dX7_row_111 (by decide) (fun h111 => ?_) (fun h111 => ?_)
                · skip
                  refine g_iconst X dX7_row_118 ?_
                  refine g_iadd X dX7_row_119 ?_
                  refine gp_7_spot X i7 (by decide +kernel) (by first | exact hR78 _ _ | exact hR60 _ _ | exact hR51 _ _ | exact hR26 _ _ | exact hRL21 _ _ | exact hR0 _ _ | assumption | (unfold InR; omega)) dX7_row_120 ?_
                  refine g_rg (fun hR120 => ?_)
                  refine g_goto (tgt := 21) X dX7_row_123 (by decide) ?_
                  refine ih21 _ _ _ (by omega) ?_ ?_ ?_ ?_ ?_
                  · omega
                  · exact hF3.up (by omega)
                  · rw [up_e]; omega
                  · intro j a b9
                    rw [up_o (by omega)]; exact hc3 j a b9
                  · first
                      | exact Or.inl ⟨by omega, by omega, by rw [up_e]; exact hEd (by omega) (by omega), by rw [up_e]; exact hspl⟩
                      | exact Or.inr ⟨by omega, by omega, by omega, by rw [up_e, Int.add_zero]; exact hEe (by omega), by rw [up_e, Int.add_zero]; unfold isAc; omega⟩
                · skip
                  refine g_iconst X dX7_row_114 ?_
                  refine g_goto (tgt := 119) X dX7_row_115 (by decide) ?_
                  refine g_iadd X dX7_row_119 ?_
                  refine gp_7_spot X i7 (by decide +kernel) (by first | exact hR78 _ _ | exact hR60 _ _ | exact hR51 _ _ | exact hR26 _ _ | exact hRL21 _ _ | exact hR0 _ _ | assumption | (unfold InR; omega)) dX7_row_120 ?_
                  refine g_rg (fun hR120 => ?_)
                  refine g_goto (tgt := 21) X dX7_row_123 (by decide) ?_
                  refine ih21 _ _ _ (by omega) ?_ ?_ ?_ ?_ ?_
                  · omega
                  · exact hF3.up (by omega)
                  · rw [up_e]; omega
                  · intro j a b9
                    rw [up_o (by omega)]; exact hc3 j a b9
                  · first
                      | exact Or.inl ⟨by omega, by omega, by rw [up_e]; exact hEd (by omega) (by omega), by rw [up_e]; exact hspl⟩
                      | exact Or.inr ⟨by omega, by omega, by omega, by rw [up_e, Int.add_zero]; exact hEe (by omega), by rw [up_e, Int.add_zero]; unfold isAc; omega⟩
              · skip
                refine g_aload0 X dX7_row_84 ?_
                refine gf_7_rows X i7 (by decide +kernel) dX7_row_85 ?_
                refine g_if_le (tgt := 105) X (by first | exact hR78 _ _ | exact hR60 _ _ | exact hR51 _ _ | exact hR26 _ _ | exact hRL21 _ _ | exact hR0 _ _ | assumption | (unfold InR; omega)) dX7_row_88 (by decide) (fun h88 => ?_) (fun h88 => ?_)
                · skip
                  refine g_aload0 X dX7_row_105 ?_
                  refine g_dup X dX7_row_106 rfl ?_
                  refine gf_7_spot X i7 (by decide +kernel) dX7_row_107 ?_
                  refine g_iload3 X dX7_row_110 ?_
                  refine g_if_eq (tgt := 118) X (by first | exact hR78 _ _ | exact hR60 _ _ | exact hR51 _ _ | exact hR26 _ _ | exact hRL21 _ _ | exact hR0 _ _ | assumption | (unfold InR; omega)) dX7_row_111 (by decide) (fun h111 => ?_) (fun h111 => ?_)
                  · skip
                    refine g_iconst X dX7_row_118 ?_
                    refine g_iadd X dX7_row_119 ?_
                    refine gp_7_spot X i7 (by decide +kernel) (by first | exact hR78 _ _ | exact hR60 _ _ | exact hR51 _ _ | exact hR26 _ _ | exact hRL21 _ _ | exact hR0 _ _ | assumption | (unfold InR; omega)) dX7_row_120 ?_
                    refine g_rg (fun hR120 => ?_)
                    refine g_goto (tgt := 21) X dX7_row_123 (by decide) ?_
                    refine ih21 _ _ _ (by omega) ?_ ?_ ?_ ?_ ?_
                    · omega
                    · exact hF3.up (by omega)
                    · rw [up_e]; omega
                    · intro j a b9
                      rw [up_o (by omega)]; exact hc3 j a b9
                    · first
                        | exact Or.inl ⟨by omega, by omega, by rw [up_e]; exact hEd (by omega) (by omega), by rw [up_e]; exact hspl⟩
                        | exact Or.inr ⟨by omega, by omega, by omega, by rw [up_e, Int.add_zero]; exact hEe (by omega), by rw [up_e, Int.add_zero]; unfold isAc; omega⟩
                  · skip
                    refine g_iconst X dX7_row_114 ?_
                    refine g_goto (tgt := 119) X dX7_row_115 (by decide) ?_
                    refine g_iadd X dX7_row_119 ?_
                    refine gp_7_spot X i7 (by decide +kernel) (by first | exact hR78 _ _ | exact hR60 _ _ | exact hR51 _ _ | exact hR26 _ _ | exact hRL21 _ _ | exact hR0 _ _ | assumption | (unfold InR; omega)) dX7_row_120 ?_
                    refine g_rg (fun hR120 => ?_)
                    refine g_goto (tgt := 21) X dX7_row_123 (by decide) ?_
                    refine ih21 _ _ _ (by omega) ?_ ?_ ?_ ?_ ?_
                    · omega
                    · exact hF3.up (by omega)
                    · rw [up_e]; omega
                    · intro j a b9
                      rw [up_o (by omega)]; exact hc3 j a b9
                    · first
                        | exact Or.inl ⟨by omega, by omega, by rw [up_e]; exact hEd (by omega) (by omega), by rw [up_e]; exact hspl⟩
                        | exact Or.inr ⟨by omega, by omega, by omega, by rw [up_e, Int.add_zero]; exact hEe (by omega), by rw [up_e, Int.add_zero]; unfold isAc; omega⟩
                · skip
                  refine g_iload2 X dX7_row_91 ?_
                  refine g_aload0 X dX7_row_92 ?_
                  refine gf_7_wide X i7 (by decide +kernel) dX7_row_93 ?_
                  refine g_icmp_ge (tgt := 105) X (by first | exact hR78 _ _ | exact hR60 _ _ | exact hR51 _ _ | exact hR26 _ _ | exact hRL21 _ _ | exact hR0 _ _ | assumption | (unfold InR; omega)) (by first | exact hR78 _ _ | exact hR60 _ _ | exact hR51 _ _ | exact hR26 _ _ | exact hRL21 _ _ | exact hR0 _ _ | assumption | (unfold InR; omega)) dX7_row_96 (by decide) (fun h96 => ?_) (fun h96 => ?_)
                  · skip
                    refine g_aload0 X dX7_row_105 ?_
                    refine g_dup X dX7_row_106 rfl ?_
                    refine gf_7_spot X i7 (by decide +kernel) dX7_row_107 ?_
                    refine g_iload3 X dX7_row_110 ?_
                    refine g_if_eq (tgt := 118) X (by first | exact hR78 _ _ | exact hR60 _ _ | exact hR51 _ _ | exact hR26 _ _ | exact hRL21 _ _ | exact hR0 _ _ | assumption | (unfold InR; omega)) dX7_row_111 (by decide) (fun h111 => ?_) (fun h111 => ?_)
                    · skip
                      refine g_iconst X dX7_row_118 ?_
                      refine g_iadd X dX7_row_119 ?_
                      refine gp_7_spot X i7 (by decide +kernel) (by first | exact hR78 _ _ | exact hR60 _ _ | exact hR51 _ _ | exact hR26 _ _ | exact hRL21 _ _ | exact hR0 _ _ | assumption | (unfold InR; omega)) dX7_row_120 ?_
                      refine g_rg (fun hR120 => ?_)
                      refine g_goto (tgt := 21) X dX7_row_123 (by decide) ?_
                      refine ih21 _ _ _ (by omega) ?_ ?_ ?_ ?_ ?_
                      · omega
                      · exact hF3.up (by omega)
                      · rw [up_e]; omega
                      · intro j a b9
                        rw [up_o (by omega)]; exact hc3 j a b9
                      · first
                          | exact Or.inl ⟨by omega, by omega, by rw [up_e]; exact hEd (by omega) (by omega), by rw [up_e]; exact hspl⟩
                          | exact Or.inr ⟨by omega, by omega, by omega, by rw [up_e, Int.add_zero]; exact hEe (by omega), by rw [up_e, Int.add_zero]; unfold isAc; omega⟩
                    · skip
                      refine g_iconst X dX7_row_114 ?_
                      refine g_goto (tgt := 119) X dX7_row_115 (by decide) ?_
                      refine g_iadd X dX7_row_119 ?_
                      refine gp_7_spot X i7 (by decide +kernel) (by first | exact hR78 _ _ | exact hR60 _ _ | exact hR51 _ _ | exact hR26 _ _ | exact hRL21 _ _ | exact hR0 _ _ | assumption | (unfold InR; omega)) dX7_row_120 ?_
                      refine g_rg (fun hR120 => ?_)
                      refine g_goto (tgt := 21) X dX7_row_123 (by decide) ?_
                      refine ih21 _ _ _ (by omega) ?_ ?_ ?_ ?_ ?_
                      · omega
                      · exact hF3.up (by omega)
                      · rw [up_e]; omega
                      · intro j a b9
                        rw [up_o (by omega)]; exact hc3 j a b9
                      · first
                          | exact Or.inl ⟨by omega, by omega, by rw [up_e]; exact hEd (by omega) (by omega), by rw [up_e]; exact hspl⟩
                          | exact Or.inr ⟨by omega, by omega, by omega, by rw [up_e, Int.add_zero]; exact hEe (by omega), by rw [up_e, Int.add_zero]; unfold isAc; omega⟩
                  · skip
                    refine g_aload0 X dX7_row_99 ?_
                    refine g_iconst X dX7_row_100 ?_
                    refine g_F1 X (k_X7_fails E (by unfold InR; omega)) gX7_row_X7_fails rfl (by decide +kernel) (by decide) ob_79 (Nat.le_of_ble_eq_true rfl) dX7_row_101 (fun hz101 => ?_)
                    refine g_rg (fun hR101 => ?_)
                    exact g_zret X hr (by first | exact Or.inl rfl | exact Or.inr rfl | omega) (by first | exact PRow.f (row_A (e := 2) (by rw [← hM]; exact hEc (by omega) (by omega)) (by omega)) (by omega) (up_o (by omega)) up_e ((hF3.up (by omega)).ro (by omega)) | exact PRow.f (row_B (e := 2) (by rw [← hM]; exact hEe (by omega)) (by have h9 := rFi_01 (σ 79 13) (σ 79 14) (n + 1); unfold stR; rw [if_pos (by unfold isAc; omega), if_pos (by omega)]) (by omega)) (by omega) (up_o (by omega)) up_e ((hF3.up (by omega)).ro (by omega))) dX7_row_104
            · skip
              refine g_iload2 X dX7_row_68 ?_
              refine g_iload1 X dX7_row_69 ?_
              refine g_icmp_eq (tgt := 99) X (by first | exact hR60 _ _ | exact hR51 _ _ | exact hR26 _ _ | exact hRL21 _ _ | exact hR0 _ _ | assumption | (unfold InR; omega)) (by first | exact hR60 _ _ | exact hR51 _ _ | exact hR26 _ _ | exact hRL21 _ _ | exact hR0 _ _ | assumption | (unfold InR; omega)) dX7_row_70 (by decide) (fun h70 => ?_) (fun h70 => ?_)
              · skip
                refine g_aload0 X dX7_row_99 ?_
                refine g_iconst X dX7_row_100 ?_
                refine g_F1 X (k_X7_fails E (by unfold InR; omega)) gX7_row_X7_fails rfl (by decide +kernel) (by decide) ob_79 (Nat.le_of_ble_eq_true rfl) dX7_row_101 (fun hz101 => ?_)
                refine g_rg (fun hR101 => ?_)
                exact g_zret X hr (by first | exact Or.inl rfl | exact Or.inr rfl | omega) (by first | exact PRow.f (row_A (e := 2) (by rw [← hM]; exact hEc (by omega) (by omega)) (by omega)) (by omega) (up_o (by omega)) up_e ((hF3.up (by omega)).ro (by omega)) | exact PRow.f (row_B (e := 2) (by rw [← hM]; exact hEe (by omega)) (by have h9 := rFi_01 (σ 79 13) (σ 79 14) (n + 1); unfold stR; rw [if_pos (by unfold isAc; omega), if_pos (by omega)]) (by omega)) (by omega) (up_o (by omega)) up_e ((hF3.up (by omega)).ro (by omega))) dX7_row_104
              · skip
                refine g_aload0 X dX7_row_73 ?_
                refine g_bipush X dX7_row_74 (by decide +kernel) ?_
                refine g_bipush X dX7_row_76 (by decide +kernel) ?_
                refine g_F2 X (k_X7_isAt E hTX3 (by omega) (by omega) (by omega)) gX7_row_X7_isAt rfl (by decide +kernel) (by decide) ob_79 (Nat.le_of_ble_eq_true rfl) dX7_row_78 (fun hz78 => ?_)
                refine g_rg (fun hR78 => ?_)
                refine g_if_eq (tgt := 105) X (by first | exact hR78 _ _ | exact hR60 _ _ | exact hR51 _ _ | exact hR26 _ _ | exact hRL21 _ _ | exact hR0 _ _ | assumption | (unfold InR; omega)) dX7_row_81 (by decide) (fun h81 => ?_) (fun h81 => ?_)
                · skip
                  refine g_aload0 X dX7_row_105 ?_
                  refine g_dup X dX7_row_106 rfl ?_
                  refine gf_7_spot X i7 (by decide +kernel) dX7_row_107 ?_
                  refine g_iload3 X dX7_row_110 ?_
                  refine g_if_eq (tgt := 118) X (by first | exact hR78 _ _ | exact hR60 _ _ | exact hR51 _ _ | exact hR26 _ _ | exact hRL21 _ _ | exact hR0 _ _ | assumption | (unfold InR; omega)) dX7_row_111 (by decide) (fun h111 => ?_) (fun h111 => ?_)
                  · skip
                    refine g_iconst X dX7_row_118 ?_
                    refine g_iadd X dX7_row_119 ?_
                    refine gp_7_spot X i7 (by decide +kernel) (by first | exact hR78 _ _ | exact hR60 _ _ | exact hR51 _ _ | exact hR26 _ _ | exact hRL21 _ _ | exact hR0 _ _ | assumption | (unfold InR; omega)) dX7_row_120 ?_
                    refine g_rg (fun hR120 => ?_)
                    refine g_goto (tgt := 21) X dX7_row_123 (by decide) ?_
                    refine ih21 _ _ _ (by omega) ?_ ?_ ?_ ?_ ?_
                    · omega
                    · exact hF3.up (by omega)
                    · rw [up_e]; omega
                    · intro j a b9
                      rw [up_o (by omega)]; exact hc3 j a b9
                    · first
                        | exact Or.inl ⟨by omega, by omega, by rw [up_e]; exact hEd (by omega) (by omega), by rw [up_e]; exact hspl⟩
                        | exact Or.inr ⟨by omega, by omega, by omega, by rw [up_e, Int.add_zero]; exact hEe (by omega), by rw [up_e, Int.add_zero]; unfold isAc; omega⟩
                  · skip
                    refine g_iconst X dX7_row_114 ?_
                    refine g_goto (tgt := 119) X dX7_row_115 (by decide) ?_
                    refine g_iadd X dX7_row_119 ?_
                    refine gp_7_spot X i7 (by decide +kernel) (by first | exact hR78 _ _ | exact hR60 _ _ | exact hR51 _ _ | exact hR26 _ _ | exact hRL21 _ _ | exact hR0 _ _ | assumption | (unfold InR; omega)) dX7_row_120 ?_
                    refine g_rg (fun hR120 => ?_)
                    refine g_goto (tgt := 21) X dX7_row_123 (by decide) ?_
                    refine ih21 _ _ _ (by omega) ?_ ?_ ?_ ?_ ?_
                    · omega
                    · exact hF3.up (by omega)
                    · rw [up_e]; omega
                    · intro j a b9
                      rw [up_o (by omega)]; exact hc3 j a b9
                    · first
                        | exact Or.inl ⟨by omega, by omega, by rw [up_e]; exact hEd (by omega) (by omega), by rw [up_e]; exact hspl⟩
                        | exact Or.inr ⟨by omega, by omega, by omega, by rw [up_e, Int.add_zero]; exact hEe (by omega), by rw [up_e, Int.add_zero]; unfold isAc; omega⟩
                · skip
                  refine g_aload0 X dX7_row_84 ?_
                  refine gf_7_rows X i7 (by decide +kernel) dX7_row_85 ?_
                  refine g_if_le (tgt := 105) X (by first | exact hR78 _ _ | exact hR60 _ _ | exact hR51 _ _ | exact hR26 _ _ | exact hRL21 _ _ | exact hR0 _ _ | assumption | (unfold InR; omega)) dX7_row_88 (by decide) (fun h88 => ?_) (fun h88 => ?_)
                  · skip
                    refine g_aload0 X dX7_row_105 ?_
                    refine g_dup X dX7_row_106 rfl ?_
                    refine gf_7_spot X i7 (by decide +kernel) dX7_row_107 ?_
                    refine g_iload3 X dX7_row_110 ?_
                    refine g_if_eq (tgt := 118) X (by first | exact hR78 _ _ | exact hR60 _ _ | exact hR51 _ _ | exact hR26 _ _ | exact hRL21 _ _ | exact hR0 _ _ | assumption | (unfold InR; omega)) dX7_row_111 (by decide) (fun h111 => ?_) (fun h111 => ?_)
                    · skip
                      refine g_iconst X dX7_row_118 ?_
                      refine g_iadd X dX7_row_119 ?_
                      refine gp_7_spot X i7 (by decide +kernel) (by first | exact hR78 _ _ | exact hR60 _ _ | exact hR51 _ _ | exact hR26 _ _ | exact hRL21 _ _ | exact hR0 _ _ | assumption | (unfold InR; omega)) dX7_row_120 ?_
                      refine g_rg (fun hR120 => ?_)
                      refine g_goto (tgt := 21) X dX7_row_123 (by decide) ?_
                      refine ih21 _ _ _ (by omega) ?_ ?_ ?_ ?_ ?_
                      · omega
                      · exact hF3.up (by omega)
                      · rw [up_e]; omega
                      · intro j a b9
                        rw [up_o (by omega)]; exact hc3 j a b9
                      · first
                          | exact Or.inl ⟨by omega, by omega, by rw [up_e]; exact hEd (by omega) (by omega), by rw [up_e]; exact hspl⟩
                          | exact Or.inr ⟨by omega, by omega, by omega, by rw [up_e, Int.add_zero]; exact hEe (by omega), by rw [up_e, Int.add_zero]; unfold isAc; omega⟩
                    · skip
                      refine g_iconst X dX7_row_114 ?_
                      refine g_goto (tgt := 119) X dX7_row_115 (by decide) ?_
                      refine g_iadd X dX7_row_119 ?_
                      refine gp_7_spot X i7 (by decide +kernel) (by first | exact hR78 _ _ | exact hR60 _ _ | exact hR51 _ _ | exact hR26 _ _ | exact hRL21 _ _ | exact hR0 _ _ | assumption | (unfold InR; omega)) dX7_row_120 ?_
                      refine g_rg (fun hR120 => ?_)
                      refine g_goto (tgt := 21) X dX7_row_123 (by decide) ?_
                      refine ih21 _ _ _ (by omega) ?_ ?_ ?_ ?_ ?_
                      · omega
                      · exact hF3.up (by omega)
                      · rw [up_e]; omega
                      · intro j a b9
                        rw [up_o (by omega)]; exact hc3 j a b9
                      · first
                          | exact Or.inl ⟨by omega, by omega, by rw [up_e]; exact hEd (by omega) (by omega), by rw [up_e]; exact hspl⟩
                          | exact Or.inr ⟨by omega, by omega, by omega, by rw [up_e, Int.add_zero]; exact hEe (by omega), by rw [up_e, Int.add_zero]; unfold isAc; omega⟩
                  · skip
                    refine g_iload2 X dX7_row_91 ?_
                    refine g_aload0 X dX7_row_92 ?_
                    refine gf_7_wide X i7 (by decide +kernel) dX7_row_93 ?_
                    refine g_icmp_ge (tgt := 105) X (by first | exact hR78 _ _ | exact hR60 _ _ | exact hR51 _ _ | exact hR26 _ _ | exact hRL21 _ _ | exact hR0 _ _ | assumption | (unfold InR; omega)) (by first | exact hR78 _ _ | exact hR60 _ _ | exact hR51 _ _ | exact hR26 _ _ | exact hRL21 _ _ | exact hR0 _ _ | assumption | (unfold InR; omega)) dX7_row_96 (by decide) (fun h96 => ?_) (fun h96 => ?_)
                    · skip
                      refine g_aload0 X dX7_row_105 ?_
                      refine g_dup X dX7_row_106 rfl ?_
                      refine gf_7_spot X i7 (by decide +kernel) dX7_row_107 ?_
                      refine g_iload3 X dX7_row_110 ?_
                      refine g_if_eq (tgt := 118) X (by first | exact hR78 _ _ | exact hR60 _ _ | exact hR51 _ _ | exact hR26 _ _ | exact hRL21 _ _ | exact hR0 _ _ | assumption | (unfold InR; omega)) dX7_row_111 (by decide) (fun h111 => ?_) (fun h111 => ?_)
                      · skip
                        refine g_iconst X dX7_row_118 ?_
                        refine g_iadd X dX7_row_119 ?_
                        refine gp_7_spot X i7 (by decide +kernel) (by first | exact hR78 _ _ | exact hR60 _ _ | exact hR51 _ _ | exact hR26 _ _ | exact hRL21 _ _ | exact hR0 _ _ | assumption | (unfold InR; omega)) dX7_row_120 ?_
                        refine g_rg (fun hR120 => ?_)
                        refine g_goto (tgt := 21) X dX7_row_123 (by decide) ?_
                        refine ih21 _ _ _ (by omega) ?_ ?_ ?_ ?_ ?_
                        · omega
                        · exact hF3.up (by omega)
                        · rw [up_e]; omega
                        · intro j a b9
                          rw [up_o (by omega)]; exact hc3 j a b9
                        · first
                            | exact Or.inl ⟨by omega, by omega, by rw [up_e]; exact hEd (by omega) (by omega), by rw [up_e]; exact hspl⟩
                            | exact Or.inr ⟨by omega, by omega, by omega, by rw [up_e, Int.add_zero]; exact hEe (by omega), by rw [up_e, Int.add_zero]; unfold isAc; omega⟩
                      · skip
                        refine g_iconst X dX7_row_114 ?_
                        refine g_goto (tgt := 119) X dX7_row_115 (by decide) ?_
                        refine g_iadd X dX7_row_119 ?_
                        refine gp_7_spot X i7 (by decide +kernel) (by first | exact hR78 _ _ | exact hR60 _ _ | exact hR51 _ _ | exact hR26 _ _ | exact hRL21 _ _ | exact hR0 _ _ | assumption | (unfold InR; omega)) dX7_row_120 ?_
                        refine g_rg (fun hR120 => ?_)
                        refine g_goto (tgt := 21) X dX7_row_123 (by decide) ?_
                        refine ih21 _ _ _ (by omega) ?_ ?_ ?_ ?_ ?_
                        · omega
                        · exact hF3.up (by omega)
                        · rw [up_e]; omega
                        · intro j a b9
                          rw [up_o (by omega)]; exact hc3 j a b9
                        · first
                            | exact Or.inl ⟨by omega, by omega, by rw [up_e]; exact hEd (by omega) (by omega), by rw [up_e]; exact hspl⟩
                            | exact Or.inr ⟨by omega, by omega, by omega, by rw [up_e, Int.add_zero]; exact hEe (by omega), by rw [up_e, Int.add_zero]; unfold isAc; omega⟩
                    · skip
                      refine g_aload0 X dX7_row_99 ?_
                      refine g_iconst X dX7_row_100 ?_
                      refine g_F1 X (k_X7_fails E (by unfold InR; omega)) gX7_row_X7_fails rfl (by decide +kernel) (by decide) ob_79 (Nat.le_of_ble_eq_true rfl) dX7_row_101 (fun hz101 => ?_)
                      refine g_rg (fun hR101 => ?_)
                      exact g_zret X hr (by first | exact Or.inl rfl | exact Or.inr rfl | omega) (by first | exact PRow.f (row_A (e := 2) (by rw [← hM]; exact hEc (by omega) (by omega)) (by omega)) (by omega) (up_o (by omega)) up_e ((hF3.up (by omega)).ro (by omega)) | exact PRow.f (row_B (e := 2) (by rw [← hM]; exact hEe (by omega)) (by have h9 := rFi_01 (σ 79 13) (σ 79 14) (n + 1); unfold stR; rw [if_pos (by unfold isAc; omega), if_pos (by omega)]) (by omega)) (by omega) (up_o (by omega)) up_e ((hF3.up (by omega)).ro (by omega))) dX7_row_104
          · skip
            refine g_iconst X dX7_row_32 ?_
            exact g_zret X hr (by first | exact Or.inl rfl | exact Or.inr rfl | omega) (PRow.f (row_A (e := 1) (by rw [← hM, ← hb25.2.2.1, esG_s hb25.2.1, if_pos (by omega), show enR (σ 82) (σ 79 4) (σ1 79 11) = 1 by omega]) (by omega)) (by omega) hq26.2.1 (hq26.2.2.2.1 (by omega)) (hF26.ro (by omega))) dX7_row_33
    refine L21 _ _ _ _ (Nat.lt_succ_self _) ?_ ?_ ?_ ?_ ?_
    · omega
    · exact fun q k _ _ => rfl
    · omega
    · intro j a b9
      omega
    · exact Or.inl ⟨rfl, by omega, by rw [Int.sub_zero]; rfl, rfl⟩
  refine g_aload0 X dX7_row_0 ?_
  refine gf_7_rows X i7 (by decide +kernel) dX7_row_1 ?_
  refine g_if_ne (tgt := 12) X (by first | exact hR0 _ _ | assumption | (unfold InR; omega)) dX7_row_4 (by decide) (fun h4 => ?_) (fun h4 => ?_)
  · skip
    refine g_aload0 X dX7_row_12 ?_
    refine gf_7_wide X i7 (by decide +kernel) dX7_row_13 ?_
    exact J16 _ (by unfold rMo; first | (rw [if_pos (by omega)]; done) | (rw [if_neg (by omega)]; done))
  · skip
    refine g_bipush X dX7_row_7 (by decide +kernel) ?_
    refine g_goto (tgt := 16) X dX7_row_9 (by decide) ?_
    exact J16 _ (by unfold rMo; first | (rw [if_pos (by omega)]; done) | (rw [if_neg (by omega)]; done))
