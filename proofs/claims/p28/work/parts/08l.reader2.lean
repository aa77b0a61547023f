/-! MY CONTRACTS: the reader's rows -/
theorem iA_ac (σ : St) (i c : Int) : (iA σ i c = 1 ∧ isAc (σ 9) (σ 8 0) i c) ∨ (iA σ i c = 0 ∧ ¬ isAc (σ 9) (σ 8 0) i c) := by
  unfold iA
  by_cases h : i < σ 8 0 ∧ σ 9 i = c
  · rw [if_pos h]; exact Or.inl ⟨rfl, h⟩
  · rw [if_neg h]; exact Or.inr ⟨rfl, h⟩
def FRe (σ σ' : St) (r n : Int) : Prop := ∀ q k, ¬ (q = 10 ∧ (k = 0 ∨ k = 1)) → ¬ (q = TR 5 r ∧ 0 ≤ k ∧ k < n) → σ' q k = σ q k
/-- where the rows' reading comes to: rows, place, reason, entries of the first -/
def rwG (T : Int → Int) (len : Int) : Nat → Int → Int → Int → Int × Int × Int × Int
  | 0, r, p, w => (r, p, 0, w)
  | k + 1, r, p, w => if roR T len r w p ≠ 0 then (r + 1, roP T len r w p, roR T len r w p, roW T len r w p)
    else if roP T len r w p = len then (r + 1, len, 0, roW T len r w p)
    else if stR T len (roP T len r w p) 59 (if r + 1 < 7 then 1 else 0) ≠ 0 then (r + 1, roP T len r w p, stR T len (roP T len r w p) 59 (if r + 1 < 7 then 1 else 0), roW T len r w p)
    else rwG T len k (r + 1) (roP T len r w p + 1) (roW T len r w p)
theorem rwG_s {T : Int → Int} {len r p w : Int} (h : r < 7) : rwG T len (7 - r).toNat r p w = if roR T len r w p ≠ 0 then (r + 1, roP T len r w p, roR T len r w p, roW T len r w p)
    else if roP T len r w p = len then (r + 1, len, 0, roW T len r w p)
    else if stR T len (roP T len r w p) 59 (if r + 1 < 7 then 1 else 0) ≠ 0 then (r + 1, roP T len r w p, stR T len (roP T len r w p) 59 (if r + 1 < 7 then 1 else 0), roW T len r w p)
    else rwG T len (7 - (r + 1)).toNat (r + 1) (roP T len r w p + 1) (roW T len r w p) := by
  rw [show (7 - r).toNat = (7 - (r + 1)).toNat + 1 by omega]
  rw [rwG]
def rwR (T : Int → Int) (len : Int) : Int × Int × Int × Int := rwG T len 7 0 0 7
/-- the width and the place of the row r -/
def wiS (T : Int → Int) (len : Int) : Int := roN T len 0 7 0
def rpS (T : Int → Int) (len i : Int) : Int := FI (fun a r => roP T len r (if r = 0 then 7 else wiS T len) a + 1) 0 i
theorem rpS_s {T : Int → Int} {len i : Int} (h : 0 ≤ i) : rpS T len (i + 1) = roP T len i (if i = 0 then 7 else wiS T len) (rpS T len i) + 1 := FI_s h
/-- what a table of the text holds -/
def txC (T : Int → Int) (len w j : Int) : Int := enV T len (plS T len (rpS T len w) j)
def txD (T : Int → Int) (len w : Int) : Int := nV T len (rsP T len w (if w = 0 then 7 else wiS T len) (rpS T len w))
theorem roN_b {T : Int → Int} {len r w p : Int} (hw : r = 0 ∨ 1 ≤ w) (hp : p ≤ len) : 1 ≤ roN T len r w p ∧ roN T len r w p ≤ rMo r w := (esR_b (rMo_b hw) hp).1
theorem wiS_b {T : Int → Int} {len : Int} (h : 0 ≤ len) : 1 ≤ wiS T len ∧ wiS T len ≤ 7 := roN_b (r := 0) (w := 7) (Or.inl rfl) h
set_option maxHeartbeats 4000000 in
set_option maxRecDepth 100000 in
theorem k_X3_readEntries (E0 : EV) {ad : Int → Nat} {σ : St} {r : Int} (hTX : TXK σ) (hp : 0 ≤ σ 10 0 ∧ σ 10 0 ≤ σ 8 0) (he : σ 10 1 = 0) (hr0 : 0 ≤ r ∧ r < 7) (hw0 : r = 0 ∨ (1 ≤ σ (TB 5) 1 ∧ σ (TB 5) 1 ≤ 7)) : MGE E0 yX3_readEntries wsX3_readEntries 3 63 ad σ [.ref (ad 10), .int (iI r)] (PI (fun z σ' => z = (esR (σ 9) (σ 8 0) (rMo r (σ (TB 5) 1)) (σ 10 0)).1 ∧ σ' 10 0 = (esR (σ 9) (σ 8 0) (rMo r (σ (TB 5) 1)) (σ 10 0)).2.1 ∧ σ' 10 1 = (esR (σ 9) (σ 8 0) (rMo r (σ (TB 5) 1)) (σ 10 0)).2.2 ∧ FRe σ σ' r z ∧ ∀ k, 0 ≤ k → k < z → σ' (TR 5 r) k = enV (σ 9) (σ 8 0) (plS (σ 9) (σ 8 0) (σ 10 0) k))) := by
  refine MGE.of (cc := cX3_readEntries) (maxL := 5) (ret := (some .int)) (own := RX3) [some (.ref (ad 10)), some (.int (iI r)), none, none, none] (by decide +kernel) rfl rfl (Nat.le_of_ble_eq_true rfl) rfl rfl (fun E X hr => ?_)
  have i3 : ∀ w ∈ wsX30, w ∈ wsX3_readEntries := by decide +kernel
  have i4 : ∀ w ∈ wsX40, w ∈ wsX3_readEntries := by decide +kernel
  refine g_rg (fun hR0 => ?_)
  have h8 := hTX.1
  have J16 : ∀ M : Int, M = rMo r (σ (TB 5) 1) → WG E ad 5 σ 16 [some (.ref (ad 10)), some (.int (iI r)), none, none, none] [.int (iI M)] := by
    intro M hM
    have hMb : 1 ≤ M ∧ M ≤ 7 := by
      rw [hM]; unfold rMo
      by_cases h : r = 0
      · rw [if_pos h]; omega
      · rw [if_neg h]; omega
    refine g_istore2 X dX3_readEntries_16 (by decide) (by first | exact Or.inl rfl | exact Or.inr ⟨_, rfl, rfl⟩) ?_
    refine g_iconst X dX3_readEntries_17 ?_
    refine g_istore3 X dX3_readEntries_18 (by decide) (by first | exact Or.inl rfl | exact Or.inr ⟨_, rfl, rfl⟩) ?_
    refine g_iconst X dX3_readEntries_19 ?_
    refine g_istore4 X dX3_readEntries_20 (by decide) (by first | exact Or.inl rfl | exact Or.inr ⟨_, rfl, rfl⟩) ?_
    have L22 : ∀ (n22 : Nat) (n b : Int) (σ1 : St), (8 - n).toNat < n22 → (0 ≤ n ∧ n ≤ M) → (FRe σ σ1 r n) → (0 ≤ σ1 10 0 ∧ σ1 10 0 ≤ σ 8 0) → (∀ k, 0 ≤ k → k < n → σ1 (TR 5 r) k = enV (σ 9) (σ 8 0) (plS (σ 9) (σ 8 0) (σ 10 0) k)) → ((b = 1 ∧ n < M ∧ σ1 10 1 = 0 ∧ esG (σ 9) (σ 8 0) M (M - n).toNat n (σ1 10 0) = esR (σ 9) (σ 8 0) M (σ 10 0) ∧ σ1 10 0 = plS (σ 9) (σ 8 0) (σ 10 0) n) ∨ ((b = 0 ∨ M ≤ n) ∧ 1 ≤ n ∧ esR (σ 9) (σ 8 0) M (σ 10 0) = (n, σ1 10 0, σ1 10 1))) → (b = 0 ∨ b = 1) → WG E ad 5 σ1 22 [some (.ref (ad 10)), some (.int (iI r)), some (.int (iI M)), some (.int (iI n)), some (.int (iI b))] [] := by
      intro n22
      induction n22 with
      | zero => intro n b σ1 hn; exact absurd hn (Nat.not_lt_zero _)
      | succ n22 ih22 =>
        intro n b σ1 hn22 hn hF hp1 hc hg hb
        refine g_rg (fun hRL22 => ?_)
        refine g_iload4 X dX3_readEntries_22 ?_
        refine g_if_eq (tgt := 104) X (by first | exact hRL22 _ _ | exact hR0 _ _ | assumption | (unfold InR; omega)) dX3_readEntries_24 (by decide) (fun h24 => ?_) (fun h24 => ?_)
        · skip
          refine g_iload3 X dX3_readEntries_104 ?_
          exact g_iret X hr (by first | exact hRL22 _ _ | exact hR0 _ _ | assumption | (unfold InR; omega)) (by
    have hgf : esR (σ 9) (σ 8 0) M (σ 10 0) = (n, σ1 10 0, σ1 10 1) := by
      rcases hg with hg | hg
      · exfalso; omega
      · exact hg.2.2
    rw [← hM, hgf]
    exact ⟨rfl, rfl, rfl, hF, hc⟩) dX3_readEntries_105
        · skip
          refine g_iload3 X dX3_readEntries_27 ?_
          refine g_iload2 X dX3_readEntries_28 ?_
          refine g_icmp_ge (tgt := 104) X (by first | exact hRL22 _ _ | exact hR0 _ _ | assumption | (unfold InR; omega)) (by first | exact hRL22 _ _ | exact hR0 _ _ | assumption | (unfold InR; omega)) dX3_readEntries_29 (by decide) (fun h29 => ?_) (fun h29 => ?_)
          · skip
            refine g_iload3 X dX3_readEntries_104 ?_
            exact g_iret X hr (by first | exact hRL22 _ _ | exact hR0 _ _ | assumption | (unfold InR; omega)) (by
    have hgf : esR (σ 9) (σ 8 0) M (σ 10 0) = (n, σ1 10 0, σ1 10 1) := by
      rcases hg with hg | hg
      · exfalso; omega
      · exact hg.2.2
    rw [← hM, hgf]
    exact ⟨rfl, rfl, rfl, hF, hc⟩) dX3_readEntries_105
          · skip
            rcases hg with ⟨hg1, hg2, hg3, hg4, hg5⟩ | hg
            rotate_left
            · exfalso
              omega
            have e8 : σ1 8 0 = σ 8 0 := hF _ _ (by omega) (by unfold TR; omega)
            have e9 : σ1 9 = σ 9 := funext fun k => hF _ _ (by omega) (by unfold TR; omega)
            have hTX1 := hTX.of e8 (fun k => congrFun e9 k)
            have hvb := enV_b (T := σ1 9) (len := σ1 8 0) (p := σ1 10 0)
            refine g_aload0 X dX3_readEntries_32 ?_
            refine gf_3_found X i3 (by decide +kernel) dX3_readEntries_33 ?_
            refine gf_4_costs X (by omega) i4 (by decide +kernel) dX3_readEntries_36 ?_
            refine g_iload1 X dX3_readEntries_39 ?_
            refine g_aald_TC X (by omega) (by omega) dX3_readEntries_40 ?_
            refine g_iload3 X dX3_readEntries_41 ?_
            refine g_aload0 X dX3_readEntries_42 ?_
            refine g_F0 X (k_X3_readEntry E hTX1 (by omega) (by omega)) gX3_readEntries_X3_readEntry rfl (by decide +kernel) (by decide) ob_10 (Nat.le_of_ble_eq_true rfl) dX3_readEntries_43 (fun hz43 => ?_)
            refine g_rg (fun hR43 => ?_)
            refine g_iast X (ia_TR (by omega) (by omega) (by omega)) (by first | exact hR43 _ _ | exact hRL22 _ _ | exact hR0 _ _ | assumption | (unfold InR; omega)) dX3_readEntries_46 ?_
            refine g_rg (fun hR46 => ?_)
            generalize hσ3 : up (rdU σ1 (enP (σ1 9) (σ1 8 0) (σ1 10 0)) (enR (σ1 9) (σ1 8 0) (σ1 10 0))) (TR 5 r) n (enV (σ1 9) (σ1 8 0) (σ1 10 0)) = σ3
            obtain ⟨u1, u2, u3⟩ := rdU_at σ1 (enP (σ1 9) (σ1 8 0) (σ1 10 0)) (enR (σ1 9) (σ1 8 0) (σ1 10 0))
            have q1 : σ3 10 0 = enP (σ 9) (σ 8 0) (σ1 10 0) := by
              rw [← hσ3]; unfold up; rw [if_neg (by unfold TR; omega), u1, e9, e8]
            have q2 : σ3 10 1 = enR (σ 9) (σ 8 0) (σ1 10 0) := by
              rw [← hσ3]; unfold up; rw [if_neg (by unfold TR; omega), u2, e9, e8]
            have hF3 : FRe σ σ3 r (n + 1) := fun q k h1 h2 => by
              rw [← hσ3]; unfold up; rw [if_neg (by omega), u3 q k h1]
              exact hF q k h1 (by omega)
            have e38 : σ3 8 0 = σ 8 0 := hF3 _ _ (by omega) (by unfold TR; omega)
            have e39 : σ3 9 = σ 9 := funext fun k => hF3 _ _ (by omega) (by unfold TR; omega)
            have hTX3 := hTX.of e38 (fun k => congrFun e39 k)
            have hpb := enP_b (T := σ 9) hp1.2
            have hrb := enR_b (T := σ 9) (len := σ 8 0) (p := σ1 10 0)
            have hc3 : ∀ k, 0 ≤ k → k < n + 1 → σ3 (TR 5 r) k = enV (σ 9) (σ 8 0) (plS (σ 9) (σ 8 0) (σ 10 0) k) := fun k h1 h2 => by
              rw [← hσ3]; unfold up
              by_cases hk : k = n
              · rw [if_pos ⟨rfl, hk⟩, e9, e8, hg5, hk]
              · rw [if_neg (fun h => hk h.2), u3 _ _ (by unfold TR; omega)]
                exact hc k h1 (by omega)
            have hi3 : (iA σ3 (σ3 10 0) 44 = 1 ∧ isAc (σ 9) (σ 8 0) (enP (σ 9) (σ 8 0) (σ1 10 0)) 44) ∨ (iA σ3 (σ3 10 0) 44 = 0 ∧ ¬ isAc (σ 9) (σ 8 0) (enP (σ 9) (σ 8 0) (σ1 10 0)) 44) := by
              have h := iA_ac σ3 (σ3 10 0) 44
              rw [show isAc (σ3 9) (σ3 8 0) (σ3 10 0) 44 = isAc (σ 9) (σ 8 0) (enP (σ 9) (σ 8 0) (σ1 10 0)) 44 from by rw [e39, e38, q1]] at h
              exact h
            have hgs := esG_s (T := σ 9) (len := σ 8 0) (p := σ1 10 0) hg2
            refine g_rg (fun hR47 => ?_)
            have J78 : ∀ c : Int, (c = 1 ∧ enR (σ 9) (σ 8 0) (σ1 10 0) = 0 ∧ isAc (σ 9) (σ 8 0) (enP (σ 9) (σ 8 0) (σ1 10 0)) 44) ∨ (c = 0 ∧ ¬ (enR (σ 9) (σ 8 0) (σ1 10 0) = 0 ∧ isAc (σ 9) (σ 8 0) (enP (σ 9) (σ 8 0) (σ1 10 0)) 44)) → WG E ad 5 σ3 78 [some (.ref (ad 10)), some (.int (iI r)), some (.int (iI M)), some (.int (iI (n + 1))), some (.int (iI b))] [.int (iI c)] := by
              intro c hcc
              refine g_istore4 X dX3_readEntries_78 (by decide) (by first | exact Or.inl rfl | exact Or.inr ⟨_, rfl, rfl⟩) ?_
              refine g_iload4 X dX3_readEntries_80 ?_
              refine g_if_eq (tgt := 22) X (by first | exact hR47 _ _ | exact hR46 _ _ | exact hR43 _ _ | exact hRL22 _ _ | exact hR0 _ _ | assumption | (unfold InR; omega)) dX3_readEntries_82 (by decide) (fun h82 => ?_) (fun h82 => ?_)
              · skip
                refine ih22 _ _ _ (by omega) ?_ ?_ ?_ ?_ ?_ ?_
                · omega
                · first
                    | exact hF3
                    | exact fun q k h1 h2 => ((rdU_at σ3 _ _).2.2 q k h1).trans (hF3 q k h1 h2)
                · first
                    | (rw [q1]; omega)
                    | (rw [(rdU_at σ3 _ _).1, q1, e39, e38]
                       have := stP_b (T := σ 9) (c := 44) (f := f) (p := enP (σ 9) (σ 8 0) (σ1 10 0)) hpb.2
                       omega)
                · first
                    | exact hc3
                    | exact fun k h1 h2 => ((rdU_at σ3 _ _).2.2 _ _ (by unfold TR; omega)).trans (hc3 k h1 h2)
                · first
                    | (refine Or.inr ⟨by omega, by omega, ?_⟩
                       rw [q1, q2, ← hg4, hgs]
                       by_cases hz : enR (σ 9) (σ 8 0) (σ1 10 0) = 0
                       · rw [if_neg (by omega), if_neg (by omega), hz]
                       · rw [if_pos hz]
                       done)
                    | (rw [(rdU_at σ3 _ _).1, (rdU_at σ3 _ _).2.1, q1, e39, e38]
                       by_cases hM1 : n + 1 < M
                       · rw [if_pos hM1] at hgs hf
                         have es : stP (σ 9) (σ 8 0) (enP (σ 9) (σ 8 0) (σ1 10 0)) 44 f = enP (σ 9) (σ 8 0) (σ1 10 0) + 1 := by
                           unfold stP; rw [if_pos ⟨hcy.2, by omega⟩]
                         refine Or.inl ⟨by omega, hM1, ?_, ?_, ?_⟩
                         · unfold stR; rw [if_pos hcy.2, if_neg (by omega)]
                         · rw [es, ← hg4, hgs]
                         · rw [es, plS_s hn.1, ← hg5]
                       · rw [if_neg hM1] at hgs hf
                         refine Or.inr ⟨by omega, by omega, ?_⟩
                         rw [← hg4, hgs]
                         unfold stP stR
                         rw [if_neg (by omega), if_pos hcy.2, if_pos (by omega)])
                · omega
              · skip
                have hcy : enR (σ 9) (σ 8 0) (σ1 10 0) = 0 ∧ isAc (σ 9) (σ 8 0) (enP (σ 9) (σ 8 0) (σ1 10 0)) 44 := by omega
                rw [if_neg (by omega), if_pos hcy.2] at hgs
                have J98 : ∀ f : Int, f = (if n + 1 < M then 1 else 0) → WG E ad 5 σ3 98 [some (.ref (ad 10)), some (.int (iI r)), some (.int (iI M)), some (.int (iI (n + 1))), some (.int (iI c))] [.int (iI f), .int (iI 44), .ref (ad 10)] := by
                  intro f hf
                  have hf01 : f = 0 ∨ f = 1 := by
                    rw [hf]; by_cases h : n + 1 < M
                    · rw [if_pos h]; exact Or.inr rfl
                    · rw [if_neg h]; exact Or.inl rfl
                  refine g_W2 X (k_X3_step E hTX3 (by omega) (by omega) (by omega) (by omega)) gX3_readEntries_X3_step rfl (by decide +kernel) (by decide) ob_10 (Nat.le_of_ble_eq_true rfl) dX3_readEntries_98 ?_
                  refine g_rg (fun hR98 => ?_)
                  refine g_goto (tgt := 22) X dX3_readEntries_101 (by decide) ?_
                  refine ih22 _ _ _ (by omega) ?_ ?_ ?_ ?_ ?_ ?_
                  · omega
                  · first
                      | exact hF3
                      | exact fun q k h1 h2 => ((rdU_at σ3 _ _).2.2 q k h1).trans (hF3 q k h1 h2)
                  · first
                      | (rw [q1]; omega)
                      | (rw [(rdU_at σ3 _ _).1, q1, e39, e38]
                         have := stP_b (T := σ 9) (c := 44) (f := f) (p := enP (σ 9) (σ 8 0) (σ1 10 0)) hpb.2
                         omega)
                  · first
                      | exact hc3
                      | exact fun k h1 h2 => ((rdU_at σ3 _ _).2.2 _ _ (by unfold TR; omega)).trans (hc3 k h1 h2)
                  · first
                      | (refine Or.inr ⟨by omega, by omega, ?_⟩
                         rw [q1, q2, ← hg4, hgs]
                         by_cases hz : enR (σ 9) (σ 8 0) (σ1 10 0) = 0
                         · rw [if_neg (by omega), if_neg (by omega), hz]
                         · rw [if_pos hz]
                         done)
                      | (rw [(rdU_at σ3 _ _).1, (rdU_at σ3 _ _).2.1, q1, e39, e38]
                         by_cases hM1 : n + 1 < M
                         · rw [if_pos hM1] at hgs hf
                           have es : stP (σ 9) (σ 8 0) (enP (σ 9) (σ 8 0) (σ1 10 0)) 44 f = enP (σ 9) (σ 8 0) (σ1 10 0) + 1 := by
                             unfold stP; rw [if_pos ⟨hcy.2, by omega⟩]
                           refine Or.inl ⟨by omega, hM1, ?_, ?_, ?_⟩
                           · unfold stR; rw [if_pos hcy.2, if_neg (by omega)]
                           · rw [es, ← hg4, hgs]
                           · rw [es, plS_s hn.1, ← hg5]
                         · rw [if_neg hM1] at hgs hf
                           refine Or.inr ⟨by omega, by omega, ?_⟩
                           rw [← hg4, hgs]
                           unfold stP stR
                           rw [if_neg (by omega), if_pos hcy.2, if_pos (by omega)])
                  · omega
                refine g_aload0 X dX3_readEntries_85 ?_
                refine g_bipush X dX3_readEntries_86 (by decide +kernel) ?_
                refine g_iload3 X dX3_readEntries_88 ?_
                refine g_iload2 X dX3_readEntries_89 ?_
                refine g_icmp_ge (tgt := 97) X (by first | exact hR47 _ _ | exact hR46 _ _ | exact hR43 _ _ | exact hRL22 _ _ | exact hR0 _ _ | assumption | (unfold InR; omega)) (by first | exact hR47 _ _ | exact hR46 _ _ | exact hR43 _ _ | exact hRL22 _ _ | exact hR0 _ _ | assumption | (unfold InR; omega)) dX3_readEntries_90 (by decide) (fun h90 => ?_) (fun h90 => ?_)
                · skip
                  refine g_iconst X dX3_readEntries_97 ?_
                  exact J98 _ (by first | (rw [if_pos (by omega)]; done) | (rw [if_neg (by omega)]; done))
                · skip
                  refine g_iconst X dX3_readEntries_93 ?_
                  refine g_goto (tgt := 98) X dX3_readEntries_94 (by decide) ?_
                  exact J98 _ (by first | (rw [if_pos (by omega)]; done) | (rw [if_neg (by omega)]; done))
            refine g_iinc3 X dX3_readEntries_47 (by decide) (by first | exact Or.inl rfl | exact Or.inr ⟨_, rfl, rfl⟩) ?_
            refine g_aload0 X dX3_readEntries_50 ?_
            refine gf_3_reason X i3 (by decide +kernel) dX3_readEntries_51 ?_
            refine g_if_ne (tgt := 77) X (by first | exact hR47 _ _ | exact hR46 _ _ | exact hR43 _ _ | exact hRL22 _ _ | exact hR0 _ _ | assumption | (unfold InR; omega)) dX3_readEntries_54 (by decide) (fun h54 => ?_) (fun h54 => ?_)
            · skip
              refine g_iconst X dX3_readEntries_77 ?_
              exact J78 _ (by omega)
            · skip
              refine g_aload0 X dX3_readEntries_57 ?_
              refine gf_3_text X i3 (by decide +kernel) dX3_readEntries_58 ?_
              refine g_aload0 X dX3_readEntries_61 ?_
              refine gf_3_place X i3 (by decide +kernel) dX3_readEntries_62 ?_
              refine g_bipush X dX3_readEntries_65 (by decide +kernel) ?_
              refine g_F2 X (k_X5_isAt E hTX3.1 (by omega) (by omega)) gX3_readEntries_X5_isAt rfl (by decide +kernel) (by decide) ob_8 (Nat.le_of_ble_eq_true rfl) dX3_readEntries_67 (fun hz67 => ?_)
              refine g_rg (fun hR67 => ?_)
              refine g_if_eq (tgt := 77) X (by first | exact hR67 _ _ | exact hR47 _ _ | exact hR46 _ _ | exact hR43 _ _ | exact hRL22 _ _ | exact hR0 _ _ | assumption | (unfold InR; omega)) dX3_readEntries_70 (by decide) (fun h70 => ?_) (fun h70 => ?_)
              · skip
                refine g_iconst X dX3_readEntries_77 ?_
                exact J78 _ (by omega)
              · skip
                refine g_iconst X dX3_readEntries_73 ?_
                refine g_goto (tgt := 78) X dX3_readEntries_74 (by decide) ?_
                exact J78 _ (by omega)
    refine L22 _ _ _ _ (Nat.lt_succ_self _) ?_ ?_ ?_ ?_ ?_ ?_
    · omega
    · exact fun q k _ _ => rfl
    · exact hp
    · intro k h1 h2
      omega
    · refine Or.inl ⟨rfl, by omega, he, ?_, rfl⟩
      unfold esR
      rw [Int.sub_zero]
    · omega
  have h8 := hTX.1
  refine g_iload1 X dX3_readEntries_0 ?_
  refine g_if_ne (tgt := 9) X (by first | exact hR0 _ _ | assumption | (unfold InR; omega)) dX3_readEntries_1 (by decide) (fun h1 => ?_) (fun h1 => ?_)
  · skip
    refine g_aload0 X dX3_readEntries_9 ?_
    refine gf_3_found X i3 (by decide +kernel) dX3_readEntries_10 ?_
    refine gf_4_tasks X (by omega) i4 (by decide +kernel) dX3_readEntries_13 ?_
    exact J16 _ (by first | (unfold rMo; rw [if_pos (by omega)]; done) | (unfold rMo; rw [if_neg (by omega)]; done))
  · skip
    refine g_bipush X dX3_readEntries_4 (by decide +kernel) ?_
    refine g_goto (tgt := 16) X dX3_readEntries_6 (by decide) ?_
    exact J16 _ (by first | (unfold rMo; rw [if_pos (by omega)]; done) | (unfold rMo; rw [if_neg (by omega)]; done))

/-- behind the entries and the "/": the place and the reason -/
def rqP (T : Int → Int) (len r w p : Int) : Int := if (esR T len (rMo r w) p).2.2 ≠ 0 then (esR T len (rMo r w) p).2.1 else rsP T len r w p
def rqR (T : Int → Int) (len r w p : Int) : Int := if (esR T len (rMo r w) p).2.2 ≠ 0 then (esR T len (rMo r w) p).2.2 else rsR T len r w p
theorem rqP_b {T : Int → Int} {len r w p : Int} (hw : r = 0 ∨ 1 ≤ w) (hp : 0 ≤ p ∧ p ≤ len) : 0 ≤ rqP T len r w p ∧ rqP T len r w p ≤ len := by
  have h1 := esR_b (T := T) (len := len) (most := rMo r w) (p := p) (rMo_b hw) hp.2
  have h2 := stP_b (T := T) (c := 47) (f := rFi r w (esR T len (rMo r w) p).1) h1.2.1.2
  unfold rqP rsP
  by_cases c1 : (esR T len (rMo r w) p).2.2 ≠ 0
  · rw [if_pos c1]; omega
  · rw [if_neg c1]; omega
theorem roP_q {T : Int → Int} {len r w p : Int} : roP T len r w p = if rqR T len r w p ≠ 0 then rqP T len r w p else nP T len (rqP T len r w p) := by
  unfold roP rqR rqP
  by_cases c1 : (esR T len (rMo r w) p).2.2 ≠ 0
  · rw [if_pos c1, if_pos c1, if_pos c1, if_pos c1]
  · rw [if_neg c1, if_neg c1, if_neg c1]
theorem roR_q {T : Int → Int} {len r w p : Int} : roR T len r w p = if rqR T len r w p ≠ 0 then rqR T len r w p else nR T len (rqP T len r w p) := by
  unfold roR rqR rqP
  by_cases c1 : (esR T len (rMo r w) p).2.2 ≠ 0
  · rw [if_pos c1, if_pos c1, if_pos c1]
  · rw [if_neg c1, if_neg c1, if_neg c1]

set_option maxHeartbeats 4000000 in
set_option maxRecDepth 100000 in
theorem k_X3_readRow (E0 : EV) {ad : Int → Nat} {σ : St} {r : Int} (hTX : TXK σ) (hp : 0 ≤ σ 10 0 ∧ σ 10 0 ≤ σ 8 0) (he : σ 10 1 = 0) (hr0 : 0 ≤ r ∧ r < 7) (hw0 : r = 0 ∨ (1 ≤ σ (TB 5) 1 ∧ σ (TB 5) 1 ≤ 7)) : MGE E0 yX3_readRow wsX3_readRow 4 87 ad σ [.ref (ad 10), .int (iI r)] (PV (fun σ' => σ' 10 0 = roP (σ 9) (σ 8 0) r (σ (TB 5) 1) (σ 10 0) ∧ σ' 10 1 = roR (σ 9) (σ 8 0) r (σ (TB 5) 1) (σ 10 0) ∧ σ' (TB 5) 1 = roW (σ 9) (σ 8 0) r (σ (TB 5) 1) (σ 10 0) ∧ (∀ k, 0 ≤ k → k < roN (σ 9) (σ 8 0) r (σ (TB 5) 1) (σ 10 0) → σ' (TR 5 r) k = enV (σ 9) (σ 8 0) (plS (σ 9) (σ 8 0) (σ 10 0) k)) ∧ (rqR (σ 9) (σ 8 0) r (σ (TB 5) 1) (σ 10 0) = 0 → σ' (TI 5) r = nV (σ 9) (σ 8 0) (rqP (σ 9) (σ 8 0) r (σ (TB 5) 1) (σ 10 0))) ∧ (rqR (σ 9) (σ 8 0) r (σ (TB 5) 1) (σ 10 0) ≠ 0 → σ' (TI 5) r = σ (TI 5) r) ∧ ∀ q k, ¬ (q = 10 ∧ (k = 0 ∨ k = 1)) → ¬ (q = TR 5 r ∧ 0 ≤ k ∧ k < roN (σ 9) (σ 8 0) r (σ (TB 5) 1) (σ 10 0)) → ¬ (q = TI 5 ∧ k = r) → ¬ (q = TB 5 ∧ k = 1) → σ' q k = σ q k)) := by
  refine MGE.of (cc := cX3_readRow) (maxL := 3) (ret := none) (own := RX3) [some (.ref (ad 10)), some (.int (iI r)), none] (by decide +kernel) rfl rfl (Nat.le_of_ble_eq_true rfl) rfl rfl (fun E X hr => ?_)
  have i3 : ∀ w ∈ wsX30, w ∈ wsX3_readRow := by decide +kernel
  have i4 : ∀ w ∈ wsX40, w ∈ wsX3_readRow := by decide +kernel
  refine g_rg (fun hR0 => ?_)
  refine g_aload0 X dX3_readRow_0 ?_
  refine g_iload1 X dX3_readRow_1 ?_
  refine g_I1 X (k_X3_readEntries E hTX (by omega) (by omega) (by omega) (by omega)) gX3_readRow_X3_readEntries rfl (by decide +kernel) (by decide) ob_10 (Nat.le_of_ble_eq_true rfl) dX3_readRow_2 (fun z2 σ2 hz2 hp2 => ?_)
  refine g_rg (fun hR2 => ?_)
  refine g_istore2 X dX3_readRow_5 (by decide) (by first | exact Or.inl rfl | exact Or.inr ⟨_, rfl, rfl⟩) ?_
  obtain ⟨h2z, h2p, h2e, h2g2, h2c⟩ := hp2
  have hzb := esR_b (T := σ 9) (len := σ 8 0) (most := rMo r (σ (TB 5) 1)) (p := σ 10 0) (rMo_b (by omega)) hp.2
  have hMb : rMo r (σ (TB 5) 1) ≤ 7 := by
    unfold rMo; by_cases h : r = 0
    · rw [if_pos h]; omega
    · rw [if_neg h]; omega
  have e28 : σ2 8 0 = σ 8 0 := h2g2 _ _ (by omega) (by unfold TR; omega)
  have e29 : σ2 9 = σ 9 := funext fun k => h2g2 _ _ (by omega) (by unfold TR; omega)
  have e25 : σ2 (TB 5) 1 = σ (TB 5) 1 := h2g2 _ _ (by unfold TB; omega) (by unfold TB TR; omega)
  have hTX2 := hTX.of e28 (fun k => congrFun e29 k)
  have J59 : ∀ (σ4 : St), (∀ q k, ¬ (q = 10 ∧ (k = 0 ∨ k = 1)) → ¬ (q = TR 5 r ∧ 0 ≤ k ∧ k < z2) → ¬ (q = TI 5 ∧ k = r) → σ4 q k = σ q k) → (∀ k, 0 ≤ k → k < z2 → σ4 (TR 5 r) k = enV (σ 9) (σ 8 0) (plS (σ 9) (σ 8 0) (σ 10 0) k)) → (((rqR (σ 9) (σ 8 0) r (σ (TB 5) 1) (σ 10 0)) ≠ 0 ∧ σ4 10 0 = (rqP (σ 9) (σ 8 0) r (σ (TB 5) 1) (σ 10 0)) ∧ σ4 10 1 = (rqR (σ 9) (σ 8 0) r (σ (TB 5) 1) (σ 10 0)) ∧ σ4 (TI 5) r = σ (TI 5) r) ∨ ((rqR (σ 9) (σ 8 0) r (σ (TB 5) 1) (σ 10 0)) = 0 ∧ σ4 10 0 = nP (σ 9) (σ 8 0) (rqP (σ 9) (σ 8 0) r (σ (TB 5) 1) (σ 10 0)) ∧ σ4 10 1 = nR (σ 9) (σ 8 0) (rqP (σ 9) (σ 8 0) r (σ (TB 5) 1) (σ 10 0)) ∧ σ4 (TI 5) r = nV (σ 9) (σ 8 0) (rqP (σ 9) (σ 8 0) r (σ (TB 5) 1) (σ 10 0)))) → WG E ad 3 σ4 59 [some (.ref (ad 10)), some (.int (iI r)), some (.int (iI z2))] [] := by
    intro σ4 hF4 hc4 hg4
    refine g_rg (fun hR59 => ?_)
    refine g_iload1 X dX3_readRow_59 ?_
    refine g_if_ne (tgt := 71) X (by first | exact hR59 _ _ | exact hR2 _ _ | exact hR0 _ _ | assumption | (unfold InR; omega)) dX3_readRow_60 (by decide) (fun h60 => ?_) (fun h60 => ?_)
    · skip
      exact g_vret X hr (by
    have hN : roN (σ 9) (σ 8 0) r (σ (TB 5) 1) (σ 10 0) = z2 := h2z.symm
    rw [hN, roP_q, roR_q]
    first
      | (refine ⟨?_, ?_, ?_, ?_, ?_, ?_, ?_⟩
         · unfold up; rw [if_neg (by unfold TB; omega)]
           rcases hg4 with hg4 | hg4
           · rw [if_pos hg4.1]; exact hg4.2.1
           · rw [if_neg (by omega)]; exact hg4.2.1
         · unfold up; rw [if_neg (by unfold TB; omega)]
           rcases hg4 with hg4 | hg4
           · rw [if_pos hg4.1]; exact hg4.2.2.1
           · rw [if_neg (by omega)]; exact hg4.2.2.1
         · unfold up; rw [if_pos ⟨rfl, rfl⟩]; unfold roW; rw [if_pos (by omega), hN]
         · intro k a1 a2; unfold up; rw [if_neg (by unfold TB TR; omega)]; exact hc4 k a1 a2
         · intro a1; unfold up; rw [if_neg (by unfold TB TI; omega)]
           rcases hg4 with hg4 | hg4
           · exact absurd a1 hg4.1
           · exact hg4.2.2.2
         · intro a1; unfold up; rw [if_neg (by unfold TB TI; omega)]
           rcases hg4 with hg4 | hg4
           · exact hg4.2.2.2
           · exact absurd hg4.1 a1
         · intro q k a1 a2 a3 a4; unfold up; rw [if_neg a4]; exact hF4 q k a1 a2 a3
         done)
      | (refine ⟨?_, ?_, ?_, ?_, ?_, ?_, ?_⟩
         · rcases hg4 with hg4 | hg4
           · rw [if_pos hg4.1]; exact hg4.2.1
           · rw [if_neg (by omega)]; exact hg4.2.1
         · rcases hg4 with hg4 | hg4
           · rw [if_pos hg4.1]; exact hg4.2.2.1
           · rw [if_neg (by omega)]; exact hg4.2.2.1
         · unfold roW; rw [if_neg (by omega)]; exact hF4 _ _ (by unfold TB; omega) (by unfold TB TR; omega) (by unfold TB TI; omega)
         · intro k a1 a2; exact hc4 k a1 a2
         · intro a1
           rcases hg4 with hg4 | hg4
           · exact absurd a1 hg4.1
           · exact hg4.2.2.2
         · intro a1
           rcases hg4 with hg4 | hg4
           · exact hg4.2.2.2
           · exact absurd hg4.1 a1
         · intro q k a1 a2 a3 a4; exact hF4 q k a1 a2 a3)) dX3_readRow_71
    · skip
      refine g_aload0 X dX3_readRow_63 ?_
      refine gf_3_found X i3 (by decide +kernel) dX3_readRow_64 ?_
      refine g_iload2 X dX3_readRow_67 ?_
      refine gp_4_tasks X (by omega) i4 (by decide +kernel) (by first | exact hR59 _ _ | exact hR2 _ _ | exact hR0 _ _ | assumption | (unfold InR; omega)) dX3_readRow_68 ?_
      refine g_rg (fun hR68 => ?_)
      exact g_vret X hr (by
    have hN : roN (σ 9) (σ 8 0) r (σ (TB 5) 1) (σ 10 0) = z2 := h2z.symm
    rw [hN, roP_q, roR_q]
    first
      | (refine ⟨?_, ?_, ?_, ?_, ?_, ?_, ?_⟩
         · unfold up; rw [if_neg (by unfold TB; omega)]
           rcases hg4 with hg4 | hg4
           · rw [if_pos hg4.1]; exact hg4.2.1
           · rw [if_neg (by omega)]; exact hg4.2.1
         · unfold up; rw [if_neg (by unfold TB; omega)]
           rcases hg4 with hg4 | hg4
           · rw [if_pos hg4.1]; exact hg4.2.2.1
           · rw [if_neg (by omega)]; exact hg4.2.2.1
         · unfold up; rw [if_pos ⟨rfl, rfl⟩]; unfold roW; rw [if_pos (by omega), hN]
         · intro k a1 a2; unfold up; rw [if_neg (by unfold TB TR; omega)]; exact hc4 k a1 a2
         · intro a1; unfold up; rw [if_neg (by unfold TB TI; omega)]
           rcases hg4 with hg4 | hg4
           · exact absurd a1 hg4.1
           · exact hg4.2.2.2
         · intro a1; unfold up; rw [if_neg (by unfold TB TI; omega)]
           rcases hg4 with hg4 | hg4
           · exact hg4.2.2.2
           · exact absurd hg4.1 a1
         · intro q k a1 a2 a3 a4; unfold up; rw [if_neg a4]; exact hF4 q k a1 a2 a3
         done)
      | (refine ⟨?_, ?_, ?_, ?_, ?_, ?_, ?_⟩
         · rcases hg4 with hg4 | hg4
           · rw [if_pos hg4.1]; exact hg4.2.1
           · rw [if_neg (by omega)]; exact hg4.2.1
         · rcases hg4 with hg4 | hg4
           · rw [if_pos hg4.1]; exact hg4.2.2.1
           · rw [if_neg (by omega)]; exact hg4.2.2.1
         · unfold roW; rw [if_neg (by omega)]; exact hF4 _ _ (by unfold TB; omega) (by unfold TB TR; omega) (by unfold TB TI; omega)
         · intro k a1 a2; exact hc4 k a1 a2
         · intro a1
           rcases hg4 with hg4 | hg4
           · exact absurd a1 hg4.1
           · exact hg4.2.2.2
         · intro a1
           rcases hg4 with hg4 | hg4
           · exact hg4.2.2.2
           · exact absurd hg4.1 a1
         · intro q k a1 a2 a3 a4; exact hF4 q k a1 a2 a3)) dX3_readRow_71
  have J39 : ∀ (σ3 : St), FRe σ σ3 r z2 → (∀ k, 0 ≤ k → k < z2 → σ3 (TR 5 r) k = enV (σ 9) (σ 8 0) (plS (σ 9) (σ 8 0) (σ 10 0) k)) → (((esR (σ 9) (σ 8 0) (rMo r (σ (TB 5) 1)) (σ 10 0)).2.2 ≠ 0 ∧ σ3 10 1 = (esR (σ 9) (σ 8 0) (rMo r (σ (TB 5) 1)) (σ 10 0)).2.2 ∧ σ3 10 0 = (esR (σ 9) (σ 8 0) (rMo r (σ (TB 5) 1)) (σ 10 0)).2.1) ∨ ((esR (σ 9) (σ 8 0) (rMo r (σ (TB 5) 1)) (σ 10 0)).2.2 = 0 ∧ σ3 10 1 = rsR (σ 9) (σ 8 0) r (σ (TB 5) 1) (σ 10 0) ∧ σ3 10 0 = rsP (σ 9) (σ 8 0) r (σ (TB 5) 1) (σ 10 0))) → WG E ad 3 σ3 39 [some (.ref (ad 10)), some (.int (iI r)), some (.int (iI z2))] [] := by
    intro σ3 hF3 hc3 hg3
    refine g_rg (fun hR39 => ?_)
    have k1 : σ3 10 0 = rqP (σ 9) (σ 8 0) r (σ (TB 5) 1) (σ 10 0) := by
      unfold rqP; rcases hg3 with hg3 | hg3
      · rw [if_pos hg3.1]; exact hg3.2.2
      · rw [if_neg (by omega)]; exact hg3.2.2
    have k2 : σ3 10 1 = rqR (σ 9) (σ 8 0) r (σ (TB 5) 1) (σ 10 0) := by
      unfold rqR; rcases hg3 with hg3 | hg3
      · rw [if_pos hg3.1]; exact hg3.2.1
      · rw [if_neg (by omega)]; exact hg3.2.1
    have k3 : 0 ≤ rqP (σ 9) (σ 8 0) r (σ (TB 5) 1) (σ 10 0) ∧ rqP (σ 9) (σ 8 0) r (σ (TB 5) 1) (σ 10 0) ≤ σ 8 0 := rqP_b (by omega) hp
    have e38 : σ3 8 0 = σ 8 0 := hF3 _ _ (by omega) (by unfold TR; omega)
    have e39 : σ3 9 = σ 9 := funext fun k => hF3 _ _ (by omega) (by unfold TR; omega)
    have hTX3 := hTX.of e38 (fun k => congrFun e39 k)
    have hvb := nV_b (T := σ3 9) (len := σ3 8 0) (p := σ3 10 0)
    refine g_aload0 X dX3_readRow_39 ?_
    refine gf_3_reason X i3 (by decide +kernel) dX3_readRow_40 ?_
    refine g_if_ne (tgt := 59) X (by first | exact hR39 _ _ | exact hR2 _ _ | exact hR0 _ _ | assumption | (unfold InR; omega)) dX3_readRow_43 (by decide) (fun h43 => ?_) (fun h43 => ?_)
    · skip
      first
        | exact J59 _ (fun q k h1 h2 h3 => hF3 q k h1 h2) (fun k h1 h2 => hc3 k h1 h2) (by rw [k1, k2]; exact Or.inl ⟨by omega, rfl, rfl, hF3 _ _ (by unfold TI; omega) (by unfold TI TR; omega)⟩)
        | (obtain ⟨w1, w2, w3⟩ := rdU_at σ3 (nP (σ3 9) (σ3 8 0) (σ3 10 0)) (nR (σ3 9) (σ3 8 0) (σ3 10 0))
           refine J59 _ (fun q k h1 h2 h3 => ?_) (fun k h1 h2 => ?_) (Or.inr ⟨by omega, ?_, ?_, ?_⟩)
           · unfold up; rw [if_neg (by omega), w3 q k h1]; exact hF3 q k h1 h2
           · unfold up; rw [if_neg (by unfold TR TI; omega), w3 _ _ (by unfold TR; omega)]; exact hc3 k h1 h2
           · unfold up; rw [if_neg (by unfold TI; omega), w1, e39, e38, k1]
           · unfold up; rw [if_neg (by unfold TI; omega), w2, e39, e38, k1]
           · unfold up; rw [if_pos ⟨rfl, rfl⟩, e39, e38, k1])
    · skip
      refine g_aload0 X dX3_readRow_46 ?_
      refine gf_3_found X i3 (by decide +kernel) dX3_readRow_47 ?_
      refine gf_4_idleCosts X (by omega) i4 (by decide +kernel) dX3_readRow_50 ?_
      refine g_iload1 X dX3_readRow_53 ?_
      refine g_aload0 X dX3_readRow_54 ?_
      refine g_F0 X (k_X3_readNumber E hTX3 (by omega) (by omega)) gX3_readRow_X3_readNumber rfl (by decide +kernel) (by decide) ob_10 (Nat.le_of_ble_eq_true rfl) dX3_readRow_55 (fun hz55 => ?_)
      refine g_rg (fun hR55 => ?_)
      refine g_iast X (ia_TI (by omega) (by omega)) (by first | exact hR55 _ _ | exact hR39 _ _ | exact hR2 _ _ | exact hR0 _ _ | assumption | (unfold InR; omega)) dX3_readRow_58 ?_
      refine g_rg (fun hR58 => ?_)
      first
        | exact J59 _ (fun q k h1 h2 h3 => hF3 q k h1 h2) (fun k h1 h2 => hc3 k h1 h2) (by rw [k1, k2]; exact Or.inl ⟨by omega, rfl, rfl, hF3 _ _ (by unfold TI; omega) (by unfold TI TR; omega)⟩)
        | (obtain ⟨w1, w2, w3⟩ := rdU_at σ3 (nP (σ3 9) (σ3 8 0) (σ3 10 0)) (nR (σ3 9) (σ3 8 0) (σ3 10 0))
           refine J59 _ (fun q k h1 h2 h3 => ?_) (fun k h1 h2 => ?_) (Or.inr ⟨by omega, ?_, ?_, ?_⟩)
           · unfold up; rw [if_neg (by omega), w3 q k h1]; exact hF3 q k h1 h2
           · unfold up; rw [if_neg (by unfold TR TI; omega), w3 _ _ (by unfold TR; omega)]; exact hc3 k h1 h2
           · unfold up; rw [if_neg (by unfold TI; omega), w1, e39, e38, k1]
           · unfold up; rw [if_neg (by unfold TI; omega), w2, e39, e38, k1]
           · unfold up; rw [if_pos ⟨rfl, rfl⟩, e39, e38, k1])
  refine g_aload0 X dX3_readRow_6 ?_
  refine gf_3_reason X i3 (by decide +kernel) dX3_readRow_7 ?_
  refine g_if_ne (tgt := 39) X (by first | exact hR2 _ _ | exact hR0 _ _ | assumption | (unfold InR; omega)) dX3_readRow_10 (by decide) (fun h10 => ?_) (fun h10 => ?_)
  · skip
    first
      | exact J39 _ (fun q k h1 h2 => h2g2 q k h1 h2) h2c (Or.inl ⟨by omega, h2e, h2p⟩)
      | exact J39 _ (fun q k h1 h2 => ((rdU_at σ2 _ _).2.2 q k h1).trans (h2g2 q k h1 h2)) (fun k h1 h2 => ((rdU_at σ2 _ _).2.2 _ _ (by unfold TR; omega)).trans (h2c k h1 h2)) (Or.inr ⟨by omega, by rw [(rdU_at σ2 _ _).2.1, e29, e28, hf, h2p, h2z]; rfl, by rw [(rdU_at σ2 _ _).1, e29, e28, hf, h2p, h2z]; rfl⟩)
  · skip
    have J36 : ∀ f : Int, f = rFi r (σ (TB 5) 1) z2 → WG E ad 3 σ2 36 [some (.ref (ad 10)), some (.int (iI r)), some (.int (iI z2))] [.int (iI f), .int (iI 47), .ref (ad 10)] := by
      intro f hf
      have hf01 : f = 0 ∨ f = 1 := by
        rw [hf]; unfold rFi; by_cases h : r = 0 ∨ z2 = σ (TB 5) 1
        · rw [if_pos h]; exact Or.inr rfl
        · rw [if_neg h]; exact Or.inl rfl
      refine g_W2 X (k_X3_step E hTX2 (by omega) (by omega) (by omega) (by omega)) gX3_readRow_X3_step rfl (by decide +kernel) (by decide) ob_10 (Nat.le_of_ble_eq_true rfl) dX3_readRow_36 ?_
      refine g_rg (fun hR36 => ?_)
      first
        | exact J39 _ (fun q k h1 h2 => h2g2 q k h1 h2) h2c (Or.inl ⟨by omega, h2e, h2p⟩)
        | exact J39 _ (fun q k h1 h2 => ((rdU_at σ2 _ _).2.2 q k h1).trans (h2g2 q k h1 h2)) (fun k h1 h2 => ((rdU_at σ2 _ _).2.2 _ _ (by unfold TR; omega)).trans (h2c k h1 h2)) (Or.inr ⟨by omega, by rw [(rdU_at σ2 _ _).2.1, e29, e28, hf, h2p, h2z]; rfl, by rw [(rdU_at σ2 _ _).1, e29, e28, hf, h2p, h2z]; rfl⟩)
    refine g_aload0 X dX3_readRow_13 ?_
    refine g_bipush X dX3_readRow_14 (by decide +kernel) ?_
    refine g_iload1 X dX3_readRow_16 ?_
    refine g_if_eq (tgt := 31) X (by first | exact hR2 _ _ | exact hR0 _ _ | assumption | (unfold InR; omega)) dX3_readRow_17 (by decide) (fun h17 => ?_) (fun h17 => ?_)
    · skip
      refine g_iconst X dX3_readRow_31 ?_
      refine g_goto (tgt := 36) X dX3_readRow_32 (by decide) ?_
      exact J36 _ (by first | (unfold rFi; rw [if_pos (by omega)]; done) | (unfold rFi; rw [if_neg (by omega)]; done))
    · skip
      refine g_iload2 X dX3_readRow_20 ?_
      refine g_aload0 X dX3_readRow_21 ?_
      refine gf_3_found X i3 (by decide +kernel) dX3_readRow_22 ?_
      refine gf_4_tasks X (by omega) i4 (by decide +kernel) dX3_readRow_25 ?_
      refine g_icmp_ne (tgt := 35) X (by first | exact hR2 _ _ | exact hR0 _ _ | assumption | (unfold InR; omega)) (by first | exact hR2 _ _ | exact hR0 _ _ | assumption | (unfold InR; omega)) dX3_readRow_28 (by decide) (fun h28 => ?_) (fun h28 => ?_)
      · skip
        refine g_iconst X dX3_readRow_35 ?_
        exact J36 _ (by first | (unfold rFi; rw [if_pos (by omega)]; done) | (unfold rFi; rw [if_neg (by omega)]; done))
      · skip
        refine g_iconst X dX3_readRow_31 ?_
        refine g_goto (tgt := 36) X dX3_readRow_32 (by decide) ?_
        exact J36 _ (by first | (unfold rFi; rw [if_pos (by omega)]; done) | (unfold rFi; rw [if_neg (by omega)]; done))
