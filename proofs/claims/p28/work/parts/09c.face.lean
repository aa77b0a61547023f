/-! MY CONTRACTS: the class's face -/
section LONGS
variable {E : EV} {ad : Int → Nat} {cc : ByteArray} {nL : Nat} {own : String} {Ts : List Cond} {fr lo : Nat} {σ : St} {pc : Nat} {lv : List (Option Value)} {st : List Value}
theorem LV.put2 {ls' : Array Slot} {nL : Nat} {lv lv' : List (Option Value)} {i : Nat} {x : Value} (h : lv_has ls' nL ((i, x) :: (lvl lv).filter (fun q => !(q.1 == i) && (!(q.1 == i + 1) && !(q.1 + 1 == i && q.2.category == 2))))) (hl : lv' = (lv.set i (some x)).set (i + 1) none) (hc : ∀ v, lv[i - 1]? = some (some v) → i = 0 ∨ v.category = 1) : LV ls' nL lv' := by
  refine ⟨h.1, h.2.1, fun j v hv => ?_⟩
  rw [hl] at hv
  by_cases h1 : j = i + 1
  · subst h1
    by_cases hlen : i + 1 < (lv.set i (some x)).length
    · rw [List.getElem?_set_self hlen] at hv; cases hv
    · rw [List.getElem?_eq_none (by rw [List.length_set]; omega)] at hv; cases hv
  · rw [List.getElem?_set_ne (Ne.symm h1)] at hv
    by_cases hj : j = i
    · subst hj
      have hlt : j < lv.length := by
        have := (List.getElem?_eq_some_iff.mp hv).1
        rwa [List.length_set] at this
      rw [List.getElem?_set_self hlt] at hv
      cases hv
      exact h.2.2 (j, x) List.mem_cons_self
    · rw [List.getElem?_set_ne (Ne.symm hj)] at hv
      refine h.2.2 (j, v) (List.mem_cons_of_mem _ (List.mem_filter.mpr ⟨lvl_mem.mpr hv, ?_⟩))
      by_cases h2 : j + 1 = i
      · have := hc v (by rw [← h2]; exact hv)
        have h3 : v.category = 1 := by
          rcases this with h4 | h4
          · omega
          · exact h4
        simp [hj, h1, h3]
      · simp [hj, h1, h2]
theorem g_lstore3 (X : Cx E ad cc nL own Ts fr lo) {a b d u w : Option Value} {r : List (Option Value)} {x : Int64} (hdg : decode cc pc = .ok (.lstore_n 3, 1)) (hn : 4 < nL) (hc : d = none ∨ ∃ v, d = some v ∧ v.category = 1) (k : WG E ad nL σ (pc + 1) (a :: b :: d :: some (.long x) :: none :: r) st) : WG E ad nL σ pc (a :: b :: d :: u :: w :: r) (.long x :: st) := by
  obtain ⟨p, l, e, R, s, m, args, below, meth, c, Q, D, cy, A, kc, ks⟩ := E
  obtain ⟨hx, hb, hml, hown, hts, hK, hAp, hAA, hkc, hks, hfr, hlo⟩ := X
  intro hR H locs ls hP hS hl
  refine lv_lstore_n (i := 3) hx hb hdg rfl hl.has (by omega) rfl (fun ls2 hl2 => ?_)
  exact k hR H locs ls2 hP hS (LV.put2 hl2 rfl (fun v hv => Or.inr (by
    have e9 : d = some v := Option.some.inj hv
    rcases hc with h9 | ⟨v9, h9, h8⟩
    · rw [h9] at e9; cases e9
    · rw [h9] at e9; cases e9; exact h8)))
end LONGS
def lL (z : Int) : Int64 := Int64.ofInt z
def InL (z : Int) : Prop := -9223372036854775808 ≤ z ∧ z < 9223372036854775808
theorem lL_toInt {z : Int} (h : InL z) : (lL z).toInt = z := by
  unfold lL
  obtain ⟨h1, h2⟩ := h
  exact Int64.toInt_ofInt_of_le (by omega) (by omega)
theorem iI_l {a : Int} (h : InR a) : (iI a).toInt64 = lL a := by
  rw [← Int64.toInt_inj, Int32.toInt_toInt64, iI_toInt h, lL_toInt ⟨by have := h.1; omega, by have := h.2; omega⟩]
theorem lL_mul (a b : Int) : lL a * lL b = lL (a * b) := (Int64.ofInt_mul a b).symm
theorem lL_i {a : Int} (h : InR a) : (lL a).toInt32 = iI a := by
  rw [← iI_l h]
  exact Int32.toInt32_toInt64 (iI a)
def c3 (a b : Int) : Int := if a < b then -1 else if a = b then 0 else 1
theorem lL_cmp {a b : Int} (ha : InL a) (hb : InL b) : lg_cmp (lL a) (lL b) = iI (c3 a b) := by
  have e1 : lL a < lL b ↔ a < b := by rw [Int64.lt_iff_toInt_lt, lL_toInt ha, lL_toInt hb]
  have e2 : lL b < lL a ↔ b < a := by rw [Int64.lt_iff_toInt_lt, lL_toInt ha, lL_toInt hb]
  have e3 : lL a = lL b ↔ a = b := by rw [← Int64.toInt_inj, lL_toInt ha, lL_toInt hb]
  unfold c3
  by_cases h1 : a < b
  · rw [if_pos h1]
    have h2 := e1.mpr h1
    have h3 : ¬ lL b < lL a := fun h => by have := e2.mp h; omega
    have h4 : ¬ lL a = lL b := fun h => by have := e3.mp h; omega
    simp [lg_cmp, h2, h3, h4]
    rfl
  · rw [if_neg h1]
    have h2 : ¬ lL a < lL b := fun h => h1 (e1.mp h)
    by_cases h5 : a = b
    · rw [if_pos h5]
      subst h5
      simp [lg_cmp]
      rfl
    · rw [if_neg h5]
      have h3 : lL b < lL a := e2.mpr (by omega)
      have h4 : ¬ lL a = lL b := fun h => h5 (e3.mp h)
      simp [lg_cmp, h2, h3, h4]
      rfl
/-- what nobody sees may differ: the plans', prices', reader's scratch -/
def VE (σ σ' : St) : Prop := ∀ q k, q ≠ 3 → q ≠ 4 → q ≠ 7 → q ≠ 10 → ¬ (61 ≤ q ∧ q ≤ 78) → σ' q k = σ q k
def CI (σ : St) : Prop := (∀ t, 0 ≤ t → t < 6 → TOK σ t) ∧ HP σ ∧ TXK σ
def QQ (σ σ' : St) : Prop := VE σ σ' ∧ TOK σ' 5
theorem TOK.keep {σ σ' : St} {t : Int} (h : TOK σ t) (hk : ∀ q k, TB t ≤ q → q ≤ TB t + 9 → σ' q k = σ q k) : TOK σ' t := by
  refine ⟨?_, ?_, fun w h1 h2 => ?_, fun w j h1 h2 h3 h4 => ?_⟩
  · rw [hk _ _ (by omega) (by omega)]; exact h.1
  · rw [hk _ _ (by omega) (by omega)]; exact h.2.1
  · rw [hk _ _ (by unfold TI TB; omega) (by unfold TI TB; omega)]; exact h.2.2.1 w h1 h2
  · rw [hk _ _ (by unfold TR TB; omega) (by unfold TR TB; omega)]; exact h.2.2.2 w j h1 h2 h3 h4
theorem CI.of {σ σ' : St} (h : CI σ) (hq : QQ σ σ') : CI σ' := by
  obtain ⟨h1, h2, h3⟩ := h
  obtain ⟨q1, q2⟩ := hq
  refine ⟨fun t a b => ?_, ?_, h3.of (q1 _ _ (by omega) (by omega) (by omega) (by omega) (by omega)) (fun k => q1 _ _ (by omega) (by omega) (by omega) (by omega) (by omega))⟩
  · by_cases ht : t = 5
    · rw [ht]; exact q2
    · exact (h1 t a b).keep (fun q k c1 c2 => by unfold TB at c1 c2; exact q1 q k (by omega) (by omega) (by omega) (by omega) (by omega))
  · obtain ⟨g1, g2, g3⟩ := h2
    have e : ∀ k, σ' 2 k = σ 2 k := fun k => q1 _ _ (by omega) (by omega) (by omega) (by omega) (by omega)
    refine ⟨?_, fun i a b => ?_, fun i j a b c => ?_⟩
    · rw [q1 1 0 (by omega) (by omega) (by omega) (by omega) (by omega)]; exact g1
    · rw [e]; exact g2 i a b
    · rw [e, e]; exact g3 i j a b c
theorem FR.qq {σ σ' : St} (hT : TOK σ 5) (h : FR σ σ') : QQ σ σ' := ⟨fun q k _ _ _ _ h5 => h q k (by omega), hT.keep (fun q k c1 c2 => h q k (by unfold TB at c2; omega))⟩
theorem CH.qq {σ σ' : St} (hT : TOK σ 5) (h : CH σ σ') : QQ σ σ' := ⟨fun q k h3 h4 _ _ h5 => h.1 q k h3 h4 (by omega), hT.keep (fun q k c1 c2 => by unfold TB at c1 c2; exact h.1 q k (by omega) (by omega) (by omega))⟩
theorem FR7.qq {σ σ' : St} (hT : TOK σ 5) (h : FR7 σ σ') : QQ σ σ' := ⟨fun q k _ _ h7 _ h5 => h q k h7 (by omega), hT.keep (fun q k c1 c2 => by unfold TB at c1 c2; exact h q k (by omega) (by omega))⟩
theorem QQ.rf {σ : St} (hT : TOK σ 5) : QQ σ σ := ⟨fun _ _ _ _ _ _ _ => rfl, hT⟩
theorem QQ.tr {σ σ' σ'' : St} (h1 : QQ σ σ') (h2 : QQ σ' σ'') : QQ σ σ'' := ⟨fun q k a b c d e => (h2.1 q k a b c d e).trans (h1.1 q k a b c d e), h2.2⟩
def iW (σ : St) (w : Int) : Int := if 0 ≤ w ∧ w < σ (TB 0) 0 then 1 else 0
def iK (σ : St) (j : Int) : Int := if 0 ≤ j ∧ j < σ (TB 0) 1 then 1 else 0
def iN (σ : St) (j : Int) : Int := if j = -1 ∨ (0 ≤ j ∧ j < σ (TB 0) 1) then 1 else 0
def iC (x : Int) : Int := if 0 ≤ x ∧ x ≤ 9999 then 1 else 0
theorem if01 {c : Prop} {d : Decidable c} : ((if c then (1 : Int) else 0) = 1 ∧ c) ∨ ((if c then (1 : Int) else 0) = 0 ∧ ¬ c) := by
  by_cases h : c
  · rw [if_pos h]; exact Or.inl ⟨rfl, h⟩
  · rw [if_neg h]; exact Or.inr ⟨rfl, h⟩
theorem iW_01 (σ : St) (w : Int) : (iW σ w = 1 ∧ 0 ≤ w ∧ w < σ (TB 0) 0) ∨ (iW σ w = 0 ∧ ¬ (0 ≤ w ∧ w < σ (TB 0) 0)) := if01
theorem iK_01 (σ : St) (w : Int) : (iK σ w = 1 ∧ 0 ≤ w ∧ w < σ (TB 0) 1) ∨ (iK σ w = 0 ∧ ¬ (0 ≤ w ∧ w < σ (TB 0) 1)) := if01
theorem iN_01 (σ : St) (w : Int) : (iN σ w = 1 ∧ (w = -1 ∨ (0 ≤ w ∧ w < σ (TB 0) 1))) ∨ (iN σ w = 0 ∧ ¬ (w = -1 ∨ (0 ≤ w ∧ w < σ (TB 0) 1))) := if01
theorem iC_01 (x : Int) : (iC x = 1 ∧ 0 ≤ x ∧ x ≤ 9999) ∨ (iC x = 0 ∧ ¬ (0 ≤ x ∧ x ≤ 9999)) := if01
/-- what the history's keeping leaves -/
theorem kp_o (σ : St) (h : HP σ) : ∀ q k, q ≠ 1 → q ≠ 2 → ¬ (21 ≤ q ∧ q ≤ 60) → kp σ q k = σ q k := by
  intro q k h1 h2 h3
  obtain ⟨g1, g2, -⟩ := (kp0_HP h).1
  have g4 := (kp0_HP h).2
  have g5 := g2 (kp0 σ 1 0) (by omega) (by omega)
  have e0 : ∀ a b, a ≠ 1 → a ≠ 2 → kp0 σ a b = σ a b := fun a b c1 c2 => by
    unfold kp0
    by_cases e : σ 1 0 = 4
    · rw [if_pos e]; exact (dOm_at σ).2 a b c1 c2
    · rw [if_neg e]
  unfold kp up
  rw [if_neg (fun h => h1 h.1), ← e0 q k h1 h2]
  unfold cpT cpL
  simp only [TB, TI, TR]
  repeat' refine ite_l (fun h => ?_) (fun h => ?_)
  all_goals omega
theorem cpT_b {σ : St} {t u : Int} : (∀ k, k = 0 ∨ k = 1 → cpT σ t u (TB t) k = σ (TB u) k) ∧ (∀ k, 0 ≤ k → k < 7 → cpT σ t u (TI t) k = σ (TI u) k) ∧ (∀ r k, 0 ≤ r → r < 7 → 0 ≤ k → k < 7 → cpT σ t u (TR t r) k = σ (TR u r) k) ∧ ∀ q k, ¬ (TB t ≤ q ∧ q ≤ TB t + 9) → cpT σ t u q k = σ q k := by
  refine ⟨fun k hk => ?_, fun k h1 h2 => ?_, fun r k h1 h2 h3 h4 => ?_, fun q k h => ?_⟩
  · unfold cpT cpL; rw [if_pos ⟨rfl, hk⟩]
  · unfold cpT cpL; rw [if_neg (by unfold TI TB; omega), if_pos ⟨rfl, h1, h2⟩]
  · unfold cpT cpL; rw [if_neg (by unfold TR TB; omega), if_neg (by unfold TR TI; omega), if_pos (by unfold TR; omega)]
    exact st_c (by unfold TR; omega) rfl
  · unfold cpT cpL
    unfold TB at h
    rw [if_neg (by unfold TB; omega), if_neg (by unfold TI; omega), if_neg (by unfold TR; omega), if_neg (by unfold TR; omega)]
theorem TOK.cp {σ : St} {t u : Int} (h : TOK σ u) : TOK (cpT σ t u) t := by
  obtain ⟨c1, c2, c3, -⟩ := cpT_b (σ := σ) (t := t) (u := u)
  refine ⟨by rw [c1 0 (Or.inl rfl)]; exact h.1, by rw [c1 1 (Or.inr rfl)]; exact h.2.1, fun w a b => by rw [c2 w a b]; exact h.2.2.1 w a b, fun w j a b c d => by rw [c3 w j a b c d]; exact h.2.2.2 w j a b c d⟩
theorem CI.kept {σ : St} (h : CI σ) : CI (kp σ) := by
  obtain ⟨h1, h2, h3⟩ := h
  have hk := kp0_HP h2
  obtain ⟨g1, g2, g3⟩ := hk.1
  have g4 := hk.2
  have g5 := g2 (kp0 σ 1 0) (by omega) (by omega)
  have e0 : ∀ a b, a ≠ 1 → a ≠ 2 → kp0 σ a b = σ a b := fun a b c1 c2 => by
    unfold kp0
    by_cases e : σ 1 0 = 4
    · rw [if_pos e]; exact (dOm_at σ).2 a b c1 c2
    · rw [if_neg e]
  have hT0 : ∀ t, 0 ≤ t → t < 6 → TOK (kp0 σ) t := fun t a b => (h1 t a b).keep (fun q k c1 c2 => by unfold TB at c1; exact e0 q k (by omega) (by omega))
  have o12 : ∀ q k, q < 11 → q ≠ 1 → kp σ q k = kp0 σ q k := fun q k a b => by
    unfold kp up
    rw [if_neg (fun h => b h.1)]
    exact cpT_1 (by omega) (by omega)
  have e1 : kp σ 1 0 = kp0 σ 1 0 + 1 := by unfold kp up; rw [if_pos ⟨rfl, rfl⟩]
  refine ⟨fun t a b => ?_, ⟨by rw [e1]; omega, fun i a b => by rw [o12 2 i (by omega) (by omega)]; exact g2 i a b, fun i j a b c => by rw [o12 2 i (by omega) (by omega), o12 2 j (by omega) (by omega)]; exact g3 i j a b c⟩, ?_⟩
  · have hup : ∀ q k, TB t ≤ q → kp σ q k = cpT (kp0 σ) (kp0 σ 2 (kp0 σ 1 0)) 0 q k := fun q k c => by
      unfold kp up
      rw [if_neg (by unfold TB at c; omega)]
    by_cases ht : t = kp0 σ 2 (kp0 σ 1 0)
    · refine TOK.keep (σ := cpT (kp0 σ) (kp0 σ 2 (kp0 σ 1 0)) 0) ?_ (fun q k c _ => hup q k c)
      rw [ht]
      exact (hT0 0 (by omega) (by omega)).cp
    · refine (hT0 t a b).keep (fun q k c d => ?_)
      rw [hup q k c]
      exact cpT_b.2.2.2 q k (by unfold TB at c d ⊢; omega)
  · exact h3.of (by rw [kp_o σ h2 8 0 (by omega) (by omega) (by omega)]) (fun k => by rw [kp_o σ h2 9 k (by omega) (by omega) (by omega)])
theorem kp_T0 {σ : St} (h : HP σ) : kp σ (TB 0) 0 = σ (TB 0) 0 ∧ kp σ (TB 0) 1 = σ (TB 0) 1 ∧ (∀ k, kp σ (TI 0) k = σ (TI 0) k) ∧ ∀ w k, 0 ≤ w → w < 7 → kp σ (TR 0 w) k = σ (TR 0 w) k :=
  ⟨kp_o σ h _ _ (by unfold TB; omega) (by unfold TB; omega) (by unfold TB; omega), kp_o σ h _ _ (by unfold TB; omega) (by unfold TB; omega) (by unfold TB; omega), fun k => kp_o σ h _ _ (by unfold TI; omega) (by unfold TI; omega) (by unfold TI; omega), fun w k a b => kp_o σ h _ _ (by unfold TR; omega) (by unfold TR; omega) (by unfold TR; omega)⟩
/-- kept after a weighing: the same but the rows -/
theorem kp_FR {σ σ' : St} (h : HP σ) (hF : FR σ σ') : FR (kp σ) (kp σ') := by
  have e : ∀ q k, q < 71 → σ' q k = σ q k := fun q k a => hF q k (Or.inl a)
  have e0 : ∀ q k, (q < 71 ∨ 79 ≤ q) → kp0 σ' q k = kp0 σ q k := fun q k a => by
    unfold kp0
    rw [e 1 0 (by omega)]
    by_cases c : σ 1 0 = 4
    · rw [if_pos c, if_pos c]
      unfold dOm dOl up
      dsimp only
      rw [e 2 0 (by omega), e 2 (k + 1) (by omega), hF q k a]
    · rw [if_neg c, if_neg c]; exact hF q k a
  have hk := kp0_HP h
  obtain ⟨g1, g2, -⟩ := hk.1
  have g5 := g2 (kp0 σ 1 0) (by omega) (by omega)
  intro q k a
  unfold kp up
  rw [e0 1 0 (by omega), e0 2 _ (by omega)]
  by_cases c : q = 1 ∧ k = 0
  · rw [if_pos c, if_pos c]
  · rw [if_neg c, if_neg c]
    unfold cpT cpL
    by_cases c1 : q = TB (kp0 σ 2 (kp0 σ 1 0)) ∧ (k = 0 ∨ k = 1)
    · rw [if_pos c1, if_pos c1]; exact e0 _ _ (by unfold TB; omega)
    · rw [if_neg c1, if_neg c1]
      by_cases c2 : q = TI (kp0 σ 2 (kp0 σ 1 0)) ∧ 0 ≤ k ∧ k < 7
      · rw [if_pos c2, if_pos c2]; exact e0 _ _ (by unfold TI; omega)
      · rw [if_neg c2, if_neg c2]
        by_cases c3 : TR (kp0 σ 2 (kp0 σ 1 0)) 0 ≤ q ∧ q < TR (kp0 σ 2 (kp0 σ 1 0)) 7 ∧ 0 ≤ k ∧ k < 7
        · rw [if_pos c3, if_pos c3]; unfold TR at c3; exact e0 _ _ (by omega)
        · rw [if_neg c3, if_neg c3]
          by_cases c4 : q = TR (kp0 σ 2 (kp0 σ 1 0)) 7 ∧ 0 ≤ k ∧ k < 0
          · omega
          · rw [if_neg c4, if_neg c4]; exact e0 q k a
set_option maxHeartbeats 4000000 in
set_option maxRecDepth 100000 in
theorem k_X6_isWorker (E0 : EV) {ad : Int → Nat} {σ : St} {w : Int} (hT0 : TOK σ 0) (hx : InR w) : MGE E0 yX6_isWorker wsX6_isWorker 0 0 ad σ [.ref (ad 0), .int (iI w)] (PF (iW σ w) σ) := by
  refine MGE.of (cc := cX6_isWorker) (maxL := 2) (ret := (some .boolean)) (own := RX6) [some (.ref (ad 0)), some (.int (iI w))] (by decide +kernel) rfl rfl (Nat.le_of_ble_eq_true rfl) rfl rfl (fun E X hr => ?_)
  have i4 : ∀ w ∈ wsX40, w ∈ wsX6_isWorker := by decide +kernel
  have i6 : ∀ w ∈ wsX60, w ∈ wsX6_isWorker := by decide +kernel
  refine g_rg (fun hR0 => ?_)
  have hm := hT0.1
  have hn := hT0.2.1
  refine g_iload1 X dX6_isWorker_0 ?_
  refine g_if_lt (tgt := 19) X (by first | exact hR0 _ _ | assumption | (unfold InR; omega)) dX6_isWorker_1 (by decide) (fun h1 => ?_) (fun h1 => ?_)
  · skip
    refine g_iconst X dX6_isWorker_19 ?_
    exact g_zretF X hr (by first | exact Or.inl rfl | exact Or.inr rfl | omega) ⟨(by unfold iW; repeat (first | rw [if_pos (by omega)] | rw [if_neg (by omega)])), rfl⟩ dX6_isWorker_20
  · skip
    refine g_iload1 X dX6_isWorker_4 ?_
    refine g_aload0 X dX6_isWorker_5 ?_
    refine gf_6_table X i6 (by decide +kernel) dX6_isWorker_6 ?_
    refine gf_4_workers X (by omega) i4 (by decide +kernel) dX6_isWorker_9 ?_
    refine g_icmp_ge (tgt := 19) X (by first | exact hR0 _ _ | assumption | (unfold InR; omega)) (by first | exact hR0 _ _ | assumption | (unfold InR; omega)) dX6_isWorker_12 (by decide) (fun h12 => ?_) (fun h12 => ?_)
    · skip
      refine g_iconst X dX6_isWorker_19 ?_
      exact g_zretF X hr (by first | exact Or.inl rfl | exact Or.inr rfl | omega) ⟨(by unfold iW; repeat (first | rw [if_pos (by omega)] | rw [if_neg (by omega)])), rfl⟩ dX6_isWorker_20
    · skip
      refine g_iconst X dX6_isWorker_15 ?_
      refine g_goto (tgt := 20) X dX6_isWorker_16 (by decide) ?_
      exact g_zretF X hr (by first | exact Or.inl rfl | exact Or.inr rfl | omega) ⟨(by unfold iW; repeat (first | rw [if_pos (by omega)] | rw [if_neg (by omega)])), rfl⟩ dX6_isWorker_20

set_option maxHeartbeats 4000000 in
set_option maxRecDepth 100000 in
theorem k_X6_isTask (E0 : EV) {ad : Int → Nat} {σ : St} {w : Int} (hT0 : TOK σ 0) (hx : InR w) : MGE E0 yX6_isTask wsX6_isTask 0 0 ad σ [.ref (ad 0), .int (iI w)] (PF (iK σ w) σ) := by
  refine MGE.of (cc := cX6_isTask) (maxL := 2) (ret := (some .boolean)) (own := RX6) [some (.ref (ad 0)), some (.int (iI w))] (by decide +kernel) rfl rfl (Nat.le_of_ble_eq_true rfl) rfl rfl (fun E X hr => ?_)
  have i4 : ∀ w ∈ wsX40, w ∈ wsX6_isTask := by decide +kernel
  have i6 : ∀ w ∈ wsX60, w ∈ wsX6_isTask := by decide +kernel
  refine g_rg (fun hR0 => ?_)
  have hm := hT0.1
  have hn := hT0.2.1
  refine g_iload1 X dX6_isTask_0 ?_
  refine g_if_lt (tgt := 19) X (by first | exact hR0 _ _ | assumption | (unfold InR; omega)) dX6_isTask_1 (by decide) (fun h1 => ?_) (fun h1 => ?_)
  · skip
    refine g_iconst X dX6_isTask_19 ?_
    exact g_zretF X hr (by first | exact Or.inl rfl | exact Or.inr rfl | omega) ⟨(by unfold iK; repeat (first | rw [if_pos (by omega)] | rw [if_neg (by omega)])), rfl⟩ dX6_isTask_20
  · skip
    refine g_iload1 X dX6_isTask_4 ?_
    refine g_aload0 X dX6_isTask_5 ?_
    refine gf_6_table X i6 (by decide +kernel) dX6_isTask_6 ?_
    refine gf_4_tasks X (by omega) i4 (by decide +kernel) dX6_isTask_9 ?_
    refine g_icmp_ge (tgt := 19) X (by first | exact hR0 _ _ | assumption | (unfold InR; omega)) (by first | exact hR0 _ _ | assumption | (unfold InR; omega)) dX6_isTask_12 (by decide) (fun h12 => ?_) (fun h12 => ?_)
    · skip
      refine g_iconst X dX6_isTask_19 ?_
      exact g_zretF X hr (by first | exact Or.inl rfl | exact Or.inr rfl | omega) ⟨(by unfold iK; repeat (first | rw [if_pos (by omega)] | rw [if_neg (by omega)])), rfl⟩ dX6_isTask_20
    · skip
      refine g_iconst X dX6_isTask_15 ?_
      refine g_goto (tgt := 20) X dX6_isTask_16 (by decide) ?_
      exact g_zretF X hr (by first | exact Or.inl rfl | exact Or.inr rfl | omega) ⟨(by unfold iK; repeat (first | rw [if_pos (by omega)] | rw [if_neg (by omega)])), rfl⟩ dX6_isTask_20

set_option maxHeartbeats 4000000 in
set_option maxRecDepth 100000 in
theorem k_X6_isTaskOrNone (E0 : EV) {ad : Int → Nat} {σ : St} {w : Int} (hT0 : TOK σ 0) (hx2 : InR w) : MGE E0 yX6_isTaskOrNone wsX6_isTaskOrNone 1 21 ad σ [.ref (ad 0), .int (iI w)] (PF (iN σ w) σ) := by
  refine MGE.of (cc := cX6_isTaskOrNone) (maxL := 2) (ret := (some .boolean)) (own := RX6) [some (.ref (ad 0)), some (.int (iI w))] (by decide +kernel) rfl rfl (Nat.le_of_ble_eq_true rfl) rfl rfl (fun E X hr => ?_)
  refine g_rg (fun hR0 => ?_)
  have hn := hT0.2.1
  have hw := iK_01 σ w
  refine g_iload1 X dX6_isTaskOrNone_0 ?_
  refine g_iconst X dX6_isTaskOrNone_1 ?_
  refine g_icmp_eq (tgt := 13) X (by first | exact hR0 _ _ | assumption | (unfold InR; omega)) (by first | exact hR0 _ _ | assumption | (unfold InR; omega)) dX6_isTaskOrNone_2 (by decide) (fun h2 => ?_) (fun h2 => ?_)
  · skip
    refine g_iconst X dX6_isTaskOrNone_13 ?_
    refine g_goto (tgt := 18) X dX6_isTaskOrNone_14 (by decide) ?_
    exact g_zretF X hr (by first | exact Or.inl rfl | exact Or.inr rfl | omega) ⟨(by unfold iN; repeat (first | rw [if_pos (by omega)] | rw [if_neg (by omega)])), rfl⟩ dX6_isTaskOrNone_18
  · skip
    refine g_aload0 X dX6_isTaskOrNone_5 ?_
    refine g_iload1 X dX6_isTaskOrNone_6 ?_
    refine g_F1 X (k_X6_isTask E hT0 hx2) gX6_isTaskOrNone_X6_isTask rfl (by decide +kernel) (by decide) ob_0 (Nat.le_of_ble_eq_true rfl) dX6_isTaskOrNone_7 (fun hz7 => ?_)
    refine g_rg (fun hR7 => ?_)
    refine g_if_eq (tgt := 17) X (by first | exact hR7 _ _ | exact hR0 _ _ | assumption | (unfold InR; omega)) dX6_isTaskOrNone_10 (by decide) (fun h10 => ?_) (fun h10 => ?_)
    · skip
      refine g_iconst X dX6_isTaskOrNone_17 ?_
      exact g_zretF X hr (by first | exact Or.inl rfl | exact Or.inr rfl | omega) ⟨(by unfold iN; repeat (first | rw [if_pos (by omega)] | rw [if_neg (by omega)])), rfl⟩ dX6_isTaskOrNone_18
    · skip
      refine g_iconst X dX6_isTaskOrNone_13 ?_
      refine g_goto (tgt := 18) X dX6_isTaskOrNone_14 (by decide) ?_
      exact g_zretF X hr (by first | exact Or.inl rfl | exact Or.inr rfl | omega) ⟨(by unfold iN; repeat (first | rw [if_pos (by omega)] | rw [if_neg (by omega)])), rfl⟩ dX6_isTaskOrNone_18

set_option maxHeartbeats 4000000 in
set_option maxRecDepth 100000 in
theorem k_X6_isCost (E0 : EV) {ad : Int → Nat} {σ : St} {w : Int} (hx : InR w) : MGE E0 yX6_isCost wsX6_isCost 0 0 ad σ [.int (iI w)] (PF (iC w) σ) := by
  refine MGE.of (cc := cX6_isCost) (maxL := 1) (ret := (some .boolean)) (own := RX6) [some (.int (iI w))] (by decide +kernel) rfl rfl (Nat.le_of_ble_eq_true rfl) rfl rfl (fun E X hr => ?_)
  refine g_rg (fun hR0 => ?_)
  refine g_iload0 X dX6_isCost_0 ?_
  refine g_if_lt (tgt := 15) X (by first | exact hR0 _ _ | assumption | (unfold InR; omega)) dX6_isCost_1 (by decide) (fun h1 => ?_) (fun h1 => ?_)
  · skip
    refine g_iconst X dX6_isCost_15 ?_
    exact g_zretF X hr (by first | exact Or.inl rfl | exact Or.inr rfl | omega) ⟨(by unfold iC; repeat (first | rw [if_pos (by omega)] | rw [if_neg (by omega)])), rfl⟩ dX6_isCost_16
  · skip
    refine g_iload0 X dX6_isCost_4 ?_
    refine g_sipush X dX6_isCost_5 (by decide +kernel) ?_
    refine g_icmp_gt (tgt := 15) X (by first | exact hR0 _ _ | assumption | (unfold InR; omega)) (by first | exact hR0 _ _ | assumption | (unfold InR; omega)) dX6_isCost_8 (by decide) (fun h8 => ?_) (fun h8 => ?_)
    · skip
      refine g_iconst X dX6_isCost_15 ?_
      exact g_zretF X hr (by first | exact Or.inl rfl | exact Or.inr rfl | omega) ⟨(by unfold iC; repeat (first | rw [if_pos (by omega)] | rw [if_neg (by omega)])), rfl⟩ dX6_isCost_16
    · skip
      refine g_iconst X dX6_isCost_11 ?_
      refine g_goto (tgt := 16) X dX6_isCost_12 (by decide) ?_
      exact g_zretF X hr (by first | exact Or.inl rfl | exact Or.inr rfl | omega) ⟨(by unfold iC; repeat (first | rw [if_pos (by omega)] | rw [if_neg (by omega)])), rfl⟩ dX6_isCost_16

set_option maxHeartbeats 4000000 in
set_option maxRecDepth 100000 in
theorem k_X6_changePair (E0 : EV) {ad : Int → Nat} {σ : St} {w j c : Int} (hC : CI σ) (hw : 0 ≤ w ∧ w < 7) (hj : 0 ≤ j ∧ j < 7) (hc : -1 ≤ c ∧ c ≤ 9999) : MGE E0 yX6_changePair wsX6_changePair 5 114 ad σ [.ref (ad 0), .int (iI w), .int (iI j), .int (iI c)] (PI (fun z σ' => z = RW (up (kp σ) (TR 0 w) j c) (AW (up (kp σ) (TR 0 w) j c)) 0 0 - RW σ (AW σ) 0 0 ∧ QQ (up (kp σ) (TR 0 w) j c) σ')) := by
  refine MGE.of (cc := cX6_changePair) (maxL := 5) (ret := (some .int)) (own := RX6) [some (.ref (ad 0)), some (.int (iI w)), some (.int (iI j)), some (.int (iI c)), none] (by decide +kernel) rfl rfl (Nat.le_of_ble_eq_true rfl) rfl rfl (fun E X hr => ?_)
  have i4 : ∀ w ∈ wsX40, w ∈ wsX6_changePair := by decide +kernel
  have i6 : ∀ w ∈ wsX60, w ∈ wsX6_changePair := by decide +kernel
  refine g_rg (fun hR0 => ?_)
  have hT0 := hC.1 0 (by omega) (by omega)
  have hT5 := hC.1 5 (by omega) (by omega)
  have hm := hT0.1
  have hn := hT0.2.1
  have hzb := RW_b hT0 (AW σ) 0 0 (by omega)
  refine g_aload0 X dX6_changePair_0 ?_
  refine gf_6_plans X i6 (by decide +kernel) dX6_changePair_1 ?_
  refine g_I0 X (k_X1_leastTotal E hT0) gX6_changePair_X1_leastTotal rfl (by decide +kernel) (by decide) ob_3 (Nat.le_of_ble_eq_true rfl) dX6_changePair_4 (fun z4 σ4 hz4 hp4 => ?_)
  refine g_rg (fun hR4 => ?_)
  refine g_istore4 X dX6_changePair_7 (by decide) (by first | exact Or.inl rfl | exact Or.inr ⟨_, rfl, rfl⟩) ?_
  have hF4 := hp4.2.1
  have hC4 := hC.of (hF4.qq hT5)
  refine g_aload0 X dX6_changePair_9 ?_
  refine gf_6_history X i6 (by decide +kernel) dX6_changePair_10 ?_
  refine g_aload0 X dX6_changePair_13 ?_
  refine gf_6_table X i6 (by decide +kernel) dX6_changePair_14 ?_
  refine g_W1 X (k_X0_keep E hC4.2.1) gX6_changePair_X0_keep rfl (by decide +kernel) (by decide) ob_1 (Nat.le_of_ble_eq_true rfl) dX6_changePair_17 ?_
  refine g_rg (fun hR17 => ?_)
  refine g_aload0 X dX6_changePair_20 ?_
  refine gf_6_table X i6 (by decide +kernel) dX6_changePair_21 ?_
  refine gf_4_costs X (by omega) i4 (by decide +kernel) dX6_changePair_24 ?_
  refine g_iload1 X dX6_changePair_27 ?_
  refine g_aald_TC X (by omega) (by omega) dX6_changePair_28 ?_
  refine g_iload2 X dX6_changePair_29 ?_
  refine g_iload3 X dX6_changePair_30 ?_
  refine g_iast X (ia_TR (by omega) (by omega) (by omega)) (by first | exact hR17 _ _ | exact hR4 _ _ | exact hR0 _ _ | assumption | (unfold InR; omega)) dX6_changePair_31 ?_
  refine g_rg (fun hR31 => ?_)
  have hkF := kp_FR hC.2.1 hF4
  have hFu : FR (up (kp σ) (TR 0 w) j c) (up (kp σ4) (TR 0 w) j c) := fun q k a => by
    unfold up
    by_cases h : q = TR 0 w ∧ k = j
    · rw [if_pos h, if_pos h]
    · rw [if_neg h, if_neg h]; exact hkF q k a
  have hCk := hC.kept
  have hTu : TOK (up (kp σ) (TR 0 w) j c) 0 := by
    have hTk := hCk.1 0 (by omega) (by omega)
    refine ⟨?_, ?_, fun v a b => ?_, fun v i a b d e => ?_⟩
    · unfold up; rw [if_neg (by unfold TB TR; omega)]; exact hTk.1
    · unfold up; rw [if_neg (by unfold TB TR; omega)]; exact hTk.2.1
    · unfold up; rw [if_neg (by unfold TI TR; omega)]; exact hTk.2.2.1 v a b
    · unfold up
      by_cases h : TR 0 v = TR 0 w ∧ i = j
      · rw [if_pos h]; exact hc
      · rw [if_neg h]; exact hTk.2.2.2 v i a b d e
  have hT5u : TOK (up (kp σ) (TR 0 w) j c) 5 := (hCk.1 5 (by omega) (by omega)).keep (fun q k a b => by unfold up; rw [if_neg (by unfold TB at a; unfold TR; omega)])
  have hTu4 := hTu.of hFu
  refine g_aload0 X dX6_changePair_32 ?_
  refine gf_6_plans X i6 (by decide +kernel) dX6_changePair_33 ?_
  refine g_I0 X (k_X1_leastTotal E hTu4) gX6_changePair_X1_leastTotal rfl (by decide +kernel) (by decide) ob_3 (Nat.le_of_ble_eq_true rfl) dX6_changePair_36 (fun z36 σ36 hz36 hp36 => ?_)
  refine g_rg (fun hR36 => ?_)
  have hz2 : z36 = RW (up (kp σ) (TR 0 w) j c) (AW (up (kp σ) (TR 0 w) j c)) 0 0 := by rw [hp36.1, AW_FR hFu, RW_FR hTu hFu _ _ _ (by omega)]
  have hzb2 := RW_b hTu (AW (up (kp σ) (TR 0 w) j c)) 0 0 (by omega)
  have hz4 := hp4.1
  refine g_iload4 X dX6_changePair_39 ?_
  refine g_isub X dX6_changePair_41 ?_
  exact g_iret X hr (by first | exact hR36 _ _ | exact hR31 _ _ | exact hR17 _ _ | exact hR4 _ _ | exact hR0 _ _ | assumption | (unfold InR; omega)) ⟨by rw [hz2, hz4], (hFu.qq hT5u).tr (hp36.2.1.qq (hT5u.keep (fun q k a b => hFu q k (by unfold TB at b; omega))))⟩ dX6_changePair_42
