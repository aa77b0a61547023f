/-! THE LAW: what a change leaves -/
theorem MT.cg {g g' : Int → Int} (h : MT g) (e : ∀ k, 0 ≤ k → k < 58 → g' k = g k) : MT g' := by
  obtain ⟨h0, h1, h2, h3⟩ := h
  refine ⟨by rw [e 0 (by omega) (by omega)]; exact h0, by rw [e 1 (by omega) (by omega)]; exact h1, fun k a b => by rw [e _ (by omega) (by omega)]; exact h2 k a b, fun w t a b c d => by rw [e _ (by omega) (by omega)]; exact h3 w t a b c d⟩
theorem TEQ.cg {σ : St} {t : Int} {g g' : Int → Int} (h : TEQ σ t g) (hM : MT g) (e : ∀ k, 0 ≤ k → k < 58 → g' k = g k) : TEQ σ t g' := by
  obtain ⟨h0, h1, h2, h3⟩ := h
  have b0 := hM.1
  have b1 := hM.2.1
  have e0 := e 0 (by omega) (by omega)
  have e1 := e 1 (by omega) (by omega)
  refine ⟨by rw [e0]; exact h0, by rw [e1]; exact h1, fun w a b => ?_, fun w j a b c d => ?_⟩
  · rw [e0] at b
    rw [e _ (by omega) (by omega)]; exact h2 w a b
  · rw [e0] at b
    rw [e1] at d
    rw [e _ (by omega) (by omega)]; exact h3 w j a b c d
theorem chg_81 {σ : St} {i k : Int} (hi : 0 ≤ i ∧ i < 4) (hk : 0 ≤ k ∧ k < 58) : chg σ 81 (58 * i + k) = if i = ch0 σ 79 2 then σ 80 k else if σ 79 2 = 4 ∧ i < 3 then σ 81 (58 * (i + 1) + k) else σ 81 (58 * i + k) := by
  unfold chg
  rw [up_o (by omega)]
  unfold cpA
  by_cases h : i = ch0 σ 79 2
  · rw [if_pos (by omega), if_pos h, ch0_o σ (by omega) (by omega), show 58 * i + k - 58 * ch0 σ 79 2 = k by omega]
  · rw [if_neg (by omega), if_neg h]
    unfold ch0
    by_cases hf : σ 79 2 = 4
    · rw [if_pos hf, up_o (by omega)]
      unfold shA
      by_cases h3 : i < 3
      · rw [if_pos (by omega), if_pos ⟨hf, h3⟩, show 58 * i + k + 58 = 58 * (i + 1) + k by omega]
      · rw [if_neg (by omega), if_neg (by omega)]
    · rw [if_neg hf, if_neg (by omega)]
theorem chg_2 (σ : St) : chg σ 79 2 = ch0 σ 79 2 + 1 := by
  unfold chg
  rw [up_e]
theorem kp0_o {σ : St} {q k : Int} (h1 : q ≠ 1) (h2 : q ≠ 2) : kp0 σ q k = σ q k := by
  unfold kp0
  by_cases e : σ 1 0 = 4
  · rw [if_pos e]; exact (dOm_at σ).2 q k h1 h2
  · rw [if_neg e]
theorem kp0_1 (σ : St) : (σ 1 0 = 4 ∧ kp0 σ 1 0 = 3) ∨ (σ 1 0 ≠ 4 ∧ kp0 σ 1 0 = σ 1 0) := by
  unfold kp0
  by_cases e : σ 1 0 = 4
  · rw [if_pos e]; exact Or.inl ⟨e, (dOm_at σ).1.1⟩
  · rw [if_neg e]; exact Or.inr ⟨e, rfl⟩
theorem kp0_2 (σ : St) {i : Int} (hi : 0 ≤ i ∧ i < 3) : kp0 σ 2 i = if σ 1 0 = 4 then σ 2 (i + 1) else σ 2 i := by
  unfold kp0
  by_cases e : σ 1 0 = 4
  · rw [if_pos e, if_pos e]
    obtain ⟨-, d0, d1, d2, -⟩ := (dOm_at σ).1
    rcases (show i = 0 ∨ i = 1 ∨ i = 2 by omega) with rfl | rfl | rfl
    · exact d0
    · exact d1
    · exact d2
  · rw [if_neg e, if_neg e]
theorem kp_1 (σ : St) : kp σ 1 0 = kp0 σ 1 0 + 1 := by unfold kp; rw [up_e]
theorem kp_2 {σ : St} (hq : 0 ≤ kp0 σ 2 (kp0 σ 1 0) ∧ kp0 σ 2 (kp0 σ 1 0) < 6) (i : Int) : kp σ 2 i = kp0 σ 2 i := by
  unfold kp
  rw [up_o (by omega)]
  exact cpT_1 hq (by omega)
theorem kp_11 {σ : St} {q k : Int} (hq : 11 ≤ q) : kp σ q k = cpT (kp0 σ) (kp0 σ 2 (kp0 σ 1 0)) 0 q k := by
  unfold kp
  rw [up_o (by omega)]
/-- the reference's cells that are seen are the same -/
def AH (σ σ' : St) : Prop := ∀ q k, 79 ≤ q → q < 83 → ¬ (q = 79 ∧ 11 ≤ k ∧ k ≤ 15) → σ' q k = σ q k
theorem AG.ah {σ σ' : St} (h : AG σ σ') : AH σ σ' := fun q k a _ _ => h q k a
/-- the states that are kept are the reference's -/
theorem HK {σ σ1 : St} (h : LI σ) (f1 : AH σ σ1) : kp σ 1 0 = chg σ1 79 2 ∧ ∀ i, 0 ≤ i → i < kp σ 1 0 → TEQ (kp σ) (kp σ 2 i) (fun k => chg σ1 81 (58 * i + k)) := by
  obtain ⟨⟨c1, c2, c3⟩, ⟨m1, m2, m3, m4, m5⟩, r1, r2, r3, r4, r5⟩ := h
  have a2 : σ1 79 2 = σ 79 2 := f1 _ _ (by omega) (by omega) (by omega)
  have k0 := kp0_HP c2
  obtain ⟨g1, g2, g3⟩ := k0.1
  have k1 := kp0_1 σ
  have p1 := ch0_p σ1
  have ep : kp0 σ 1 0 = ch0 σ1 79 2 := by omega
  have g4 := g2 (kp0 σ 1 0) (by omega) (by omega)
  refine ⟨by rw [kp_1, chg_2, ep], fun i a b => ?_⟩
  rw [kp_1] at b
  rw [kp_2 (by omega) i]
  obtain ⟨b0, b1, b2, b3⟩ := cpT_b (σ := kp0 σ) (t := kp0 σ 2 (kp0 σ 1 0)) (u := 0)
  by_cases hi : i = kp0 σ 1 0
  · refine TEQ.cg (g := σ 80) ?_ m1 (fun k x y => by rw [chg_81 (by omega) ⟨x, y⟩, if_pos (by omega)]; exact f1 _ _ (by omega) (by omega) (by omega))
    rw [hi]
    obtain ⟨e0, e1, e2, e3⟩ := r1
    have hm := m1.1
    have hn := m1.2.1
    refine ⟨?_, ?_, fun w x y => ?_, fun w j x y z u => ?_⟩
    · rw [kp_11 (by unfold TB; omega), b0 0 (Or.inl rfl), kp0_o (by unfold TB; omega) (by unfold TB; omega)]; exact e0
    · rw [kp_11 (by unfold TB; omega), b0 1 (Or.inr rfl), kp0_o (by unfold TB; omega) (by unfold TB; omega)]; exact e1
    · rw [kp_11 (by unfold TI; omega), b1 w x (by omega), kp0_o (by unfold TI; omega) (by unfold TI; omega)]; exact e2 w x y
    · rw [kp_11 (by unfold TR; omega), b2 w j x (by omega) z (by omega), kp0_o (by unfold TR; omega) (by unfold TR; omega)]; exact e3 w j x y z u
  · have g5 := g2 i (by omega) (by omega)
    have g6 : kp0 σ 2 i ≠ kp0 σ 2 (kp0 σ 1 0) := g3 i _ a (by omega) (by omega)
    have hk : ∀ q k, TB (kp0 σ 2 i) ≤ q → q ≤ TB (kp0 σ 2 i) + 9 → kp σ q k = σ q k := fun q k x y => by
      rw [kp_11 (by unfold TB at x; omega), b3 q k (by unfold TB at x y ⊢; omega), kp0_o (by unfold TB at x; omega) (by unfold TB at x; omega)]
    have hi3 := kp0_2 σ (i := i) (by omega)
    by_cases hf : σ 1 0 = 4
    · rw [if_pos hf] at hi3
      refine TEQ.cg (g := fun k => σ 81 (58 * (i + 1) + k)) ?_ (m4 (i + 1) (by omega) (by omega)) (fun k x y => by rw [chg_81 (by omega) ⟨x, y⟩, if_neg (by omega), if_pos (by omega)]; exact f1 _ _ (by omega) (by omega) (by omega))
      have r := r3 (i + 1) (by omega) (by omega)
      rw [← hi3] at r
      exact r.of (m4 (i + 1) (by omega) (by omega)).1.2 (fun k => rfl) hk
    · rw [if_neg hf] at hi3
      refine TEQ.cg (g := fun k => σ 81 (58 * i + k)) ?_ (m4 i (by omega) (by omega)) (fun k x y => by rw [chg_81 (by omega) ⟨x, y⟩, if_neg (by omega), if_neg (by omega)]; exact f1 _ _ (by omega) (by omega) (by omega))
      have r := r3 i (by omega) (by omega)
      rw [← hi3] at r
      exact r.of (m4 i (by omega) (by omega)).1.2 (fun k => rfl) hk
theorem LI.ch {σ σ1 σ2 : St} (h : LI σ) (hs : ∀ q k, q ≠ 3 → q ≠ 4 → q ≠ 7 → q ≠ 10 → ¬ (11 ≤ q ∧ q ≤ 20) → ¬ (61 ≤ q ∧ q ≤ 78) → q < 83 → ¬ (q = 79 ∧ 11 ≤ k ∧ k ≤ 15) → σ1 q k = kp σ q k) (h5 : TOK σ1 5) (hs2 : ∀ q k, q ≠ 80 → q ≠ 83 → σ2 q k = chg σ1 q k) (hT : TOK σ1 0) (hM : MT (σ2 80)) (hE : TEQ σ1 0 (σ2 80)) : LI σ2 := by
  have hC := CI.kept h.1
  have f1 : AH σ σ1 := fun q k hq hq2 hq3 => by rw [hs q k (by omega) (by omega) (by omega) (by omega) (by omega) (by omega) hq2 hq3]; exact kp_o σ h.1.2.1 q k (by omega) (by omega) (by omega)
  obtain ⟨hk1, hk2⟩ := HK h f1
  have f2 : ∀ q k, q < 79 → σ2 q k = σ1 q k := fun q k hq => by rw [hs2 q k (by omega) (by omega), chg_o σ1 (by omega) (by omega)]
  have f3 : ∀ q k, (q = 1 ∨ q = 2 ∨ (21 ≤ q ∧ q ≤ 60)) → σ2 q k = kp σ q k := fun q k hq => by rw [f2 q k (by omega), hs q k (by omega) (by omega) (by omega) (by omega) (by omega) (by omega) (by omega) (by omega)]
  have f8 : ∀ q k, (q = 8 ∨ q = 9) → σ2 q k = σ q k := fun q k hq => by rw [f2 q k (by omega), hs q k (by omega) (by omega) (by omega) (by omega) (by omega) (by omega) (by omega) (by omega)]; exact kp_o σ h.1.2.1 q k (by omega) (by omega) (by omega)
  have f79 : ∀ q k, (q = 82 ∨ (q = 79 ∧ k ≠ 2 ∧ k ≤ 8)) → σ2 q k = σ q k := fun q k hq => by rw [hs2 q k (by omega) (by omega), chg_o σ1 (by omega) (by omega), f1 q k (by omega) (by omega) (by omega)]
  obtain ⟨⟨c1, c2, c3⟩, ⟨m1, m2, m3, m4, m5⟩, r1, r2, r3, r4, r5⟩ := h
  have e2 : σ2 79 2 = kp σ 1 0 := by rw [hs2 79 2 (by omega) (by omega), hk1]
  refine ⟨⟨fun t a b => ?_, ?_, ?_⟩, ⟨hM, ?_, ?_, fun i a b => ?_, ?_⟩, ?_, ?_, ?_, ?_, ?_⟩
  · by_cases t0 : t = 0
    · rw [t0]; exact hT.keep (fun q k x y => by unfold TB at x y; exact f2 q k (by omega))
    · by_cases t5 : t = 5
      · rw [t5]; exact h5.keep (fun q k x y => by unfold TB at x y; exact f2 q k (by omega))
      · exact (hC.1 t a b).keep (fun q k x y => by unfold TB at x y; exact f3 q k (by omega))
  · obtain ⟨g1, g2, g3⟩ := hC.2.1
    refine ⟨by rw [f3 1 0 (by omega)]; exact g1, fun i a b => by rw [f3 2 i (by omega)]; exact g2 i a b, fun i j a b c => by rw [f3 2 i (by omega), f3 2 j (by omega)]; exact g3 i j a b c⟩
  · exact c3.of (f8 _ _ (by omega)) (fun k => f8 _ _ (by omega))
  · exact ⟨(f79 _ _ (by omega)).trans m2.1, (f79 _ _ (by omega)).trans m2.2.1, (f79 _ _ (by omega)).trans m2.2.2⟩
  · rw [e2]; exact hC.2.1.1
  · refine MT.cg (g := fun k => chg σ1 81 (58 * i + k)) ?_ (fun k _ _ => hs2 _ _ (by omega) (by omega))
    by_cases hi : i = ch0 σ1 79 2
    · exact m1.cg (fun k x y => by rw [chg_81 ⟨a, b⟩ ⟨x, y⟩, if_pos hi]; exact f1 _ _ (by omega) (by omega) (by omega))
    · by_cases hf : σ1 79 2 = 4 ∧ i < 3
      · exact (m4 (i + 1) (by omega) (by omega)).cg (fun k x y => by rw [chg_81 ⟨a, b⟩ ⟨x, y⟩, if_neg hi, if_pos hf]; exact f1 _ _ (by omega) (by omega) (by omega))
      · exact (m4 i a b).cg (fun k x y => by rw [chg_81 ⟨a, b⟩ ⟨x, y⟩, if_neg hi, if_neg hf]; exact f1 _ _ (by omega) (by omega) (by omega))
  · exact m5.of (f79 _ _ (by omega)) (fun k => f79 _ _ (by omega))
  · exact hE.of hM.1.2 (fun k => rfl) (fun q k x y => by unfold TB at x y; exact f2 q k (by omega))
  · rw [f3 1 0 (by omega), e2]
  · intro i a b
    rw [f3 1 0 (by omega)] at b
    rw [f3 2 i (by omega)]
    have g2 := hC.2.1.2.1 i a (by have := hC.2.1.1; omega)
    have hx := hk2 i a b
    have h7 : chg σ1 81 (58 * i + 0) ≤ 7 := by
      have hx0 := hx.1
      have := (hC.1 (kp σ 2 i) (by omega) (by omega)).1
      have hx0' : kp σ (TB (kp σ 2 i)) 0 = chg σ1 81 (58 * i + 0) := hx0
      omega
    exact hx.of h7 (fun k => hs2 _ _ (by omega) (by omega)) (fun q k x y => by unfold TB at x y; exact f3 q k (by omega))
  · rw [f8 8 0 (by omega), f79 79 4 (by omega)]; exact r4
  · rw [show σ2 9 = σ 9 from funext fun k => f8 _ _ (by omega), show σ2 82 = σ 82 from funext fun k => f79 _ _ (by omega)]; exact r5
def R4 (σ : St) (M N : Int) (fi : Int → Int) (fc : Int → Int → Int) : Prop := σ (TB 0) 0 = M ∧ σ (TB 0) 1 = N ∧ (∀ w, 0 ≤ w → w < 7 → σ (TI 0) w = fi w) ∧ ∀ w j, 0 ≤ w → w < 7 → 0 ≤ j → j < 7 → σ (TR 0 w) j = fc w j
def G4 (g : Int → Int) (M N : Int) (fi : Int → Int) (fc : Int → Int → Int) : Prop := g 0 = M ∧ g 1 = N ∧ (∀ w, 0 ≤ w → w < 7 → g (2 + w) = fi w) ∧ ∀ w j, 0 ≤ w → w < 7 → 0 ≤ j → j < 7 → g (9 + 7 * w + j) = fc w j
def B4 (M N : Int) (fi : Int → Int) (fc : Int → Int → Int) : Prop := (0 ≤ M ∧ M ≤ 7) ∧ (0 ≤ N ∧ N ≤ 7) ∧ (∀ w, 0 ≤ w → w < 7 → 0 ≤ fi w ∧ fi w ≤ 9999) ∧ ∀ w j, 0 ≤ w → w < 7 → 0 ≤ j → j < 7 → -1 ≤ fc w j ∧ fc w j ≤ 9999
theorem R4.tok {σ : St} {M N : Int} {fi : Int → Int} {fc : Int → Int → Int} (h : R4 σ M N fi fc) (b : B4 M N fi fc) : TOK σ 0 := by
  obtain ⟨h0, h1, h2, h3⟩ := h
  obtain ⟨b0, b1, b2, b3⟩ := b
  exact ⟨by rw [h0]; exact b0, by rw [h1]; exact b1, fun w x y => by rw [h2 w x y]; exact b2 w x y, fun w j x y z u => by rw [h3 w j x y z u]; exact b3 w j x y z u⟩
theorem G4.mt {g : Int → Int} {M N : Int} {fi : Int → Int} {fc : Int → Int → Int} (h : G4 g M N fi fc) (b : B4 M N fi fc) : MT g := by
  obtain ⟨h0, h1, h2, h3⟩ := h
  obtain ⟨b0, b1, b2, b3⟩ := b
  exact ⟨by rw [h0]; exact b0, by rw [h1]; exact b1, fun w x y => by rw [h2 w x y]; exact b2 w x y, fun w j x y z u => by rw [h3 w j x y z u]; exact b3 w j x y z u⟩
theorem R4.teq {σ : St} {g : Int → Int} {M N M' N' : Int} {fi fi' : Int → Int} {fc fc' : Int → Int → Int} (h : R4 σ M N fi fc) (h' : G4 g M' N' fi' fc') (hM : M = M' ∧ M ≤ 7) (hN : N = N' ∧ N ≤ 7) (e1 : ∀ w, 0 ≤ w → w < M → fi w = fi' w) (e2 : ∀ w j, 0 ≤ w → w < M → 0 ≤ j → j < N → fc w j = fc' w j) : TEQ σ 0 g := by
  obtain ⟨h0, h1, h2, h3⟩ := h
  obtain ⟨b0, b1, b2, b3⟩ := h'
  refine ⟨by omega, by omega, fun w x y => ?_, fun w j x y z u => ?_⟩
  · rw [h2 w x (by omega), b2 w x (by omega)]; exact e1 w x (by omega)
  · rw [h3 w j x (by omega) z (by omega), b3 w j x (by omega) z (by omega)]; exact e2 w j x (by omega) z (by omega)
