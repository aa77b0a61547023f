/-! THE LAW: what each call leaves, and that its answers agree -/
def CO (σ σ1 : St) : Prop := ∀ q k, q ≠ 3 → q ≠ 4 → q ≠ 7 → q ≠ 10 → ¬ (11 ≤ q ∧ q ≤ 20) → ¬ (61 ≤ q ∧ q ≤ 78) → q < 83 → ¬ (q = 79 ∧ 11 ≤ k ∧ k ≤ 15) → σ1 q k = kp σ q k
theorem ag_oo {σ σ1 : St} (oo : ∀ q k, ¬ (11 ≤ q ∧ q ≤ 20) → σ1 q k = kp σ q k) (h : LI σ) : AG σ σ1 := fun q k hq => by rw [oo q k (by omega)]; exact kp_o σ h.1.2.1 q k (by omega) (by omega) (by omega)
theorem AG.rf {σ : St} : AG σ σ := fun _ _ _ => rfl
theorem LI.k {σ : St} (h : LI σ) : (kp σ (TB 0) 0 = σ 80 0 ∧ kp σ (TB 0) 1 = σ 80 1) ∧ (σ (TB 0) 0 = σ 80 0 ∧ σ (TB 0) 1 = σ 80 1) ∧ ((0 ≤ σ 80 0 ∧ σ 80 0 ≤ 7) ∧ 0 ≤ σ 80 1 ∧ σ 80 1 ≤ 7) ∧ (∀ w, 0 ≤ w → w < 7 → 0 ≤ kp σ (TI 0) w ∧ kp σ (TI 0) w ≤ 9999) ∧ (∀ w j, 0 ≤ w → w < 7 → 0 ≤ j → j < 7 → -1 ≤ kp σ (TR 0 w) j ∧ kp σ (TR 0 w) j ≤ 9999) ∧ (∀ w, 0 ≤ w → w < σ 80 0 → kp σ (TI 0) w = σ 80 (2 + w)) ∧ ∀ w j, 0 ≤ w → w < σ 80 0 → 0 ≤ j → j < σ 80 1 → kp σ (TR 0 w) j = σ 80 (9 + 7 * w + j) := by
  have hT := (CI.kept h.1).1 0 (by omega) (by omega)
  obtain ⟨k0, k1, k2, k3⟩ := kp_T0 h.1.2.1
  obtain ⟨e0, e1, e2, e3⟩ := h.2.2.1
  have hM := h.2.1.1
  exact ⟨⟨by rw [k0]; exact e0, by rw [k1]; exact e1⟩, ⟨e0, e1⟩, ⟨hM.1, hM.2.1⟩, hT.2.2.1, hT.2.2.2, fun w a b => by rw [k2]; exact e2 w a b, fun w j a b c d => by rw [k3 w j a (by have := hM.1; omega)]; exact e3 w j a b c d⟩
theorem LI.op {σ σ1 σ2 : St} {M N M' N' : Int} {fi fi' : Int → Int} {fc fc' : Int → Int → Int} (h : LI σ) (co : CO σ σ1) (h5 : TOK σ1 5) (hs2 : ∀ q k, q ≠ 80 → q ≠ 83 → σ2 q k = chg σ1 q k) (hR : R4 σ1 M N fi fc) (hG : G4 (σ2 80) M' N' fi' fc') (b : B4 M N fi fc) (b' : B4 M' N' fi' fc') (hM : M = M') (hN : N = N') (e1 : ∀ w, 0 ≤ w → w < M → fi w = fi' w) (e2 : ∀ w j, 0 ≤ w → w < M → 0 ≤ j → j < N → fc w j = fc' w j) : LI σ2 :=
  h.ch co h5 hs2 (hR.tok b) (hG.mt b') (hR.teq hG ⟨hM, b.1.2⟩ ⟨hN, b.2.1.2⟩ e1 e2)
theorem LI.t5 {σ σ1 : St} (h : LI σ) (hs : ∀ q k, ¬ (11 ≤ q ∧ q ≤ 20) → σ1 q k = kp σ q k) : TOK σ1 5 := ((CI.kept h.1).1 5 (by omega) (by omega)).keep (fun q k x y => by unfold TB at x; exact hs q k (by omega))
theorem o_adW {s : St} {x n : Int} (hm : 0 ≤ s (TB 0) 0 ∧ s (TB 0) 0 < 7) {q k : Int} (hq : ¬ (11 ≤ q ∧ q ≤ 20)) : adW s 0 x n 1 q k = s q k := by
  unfold adW
  rw [if_neg (by unfold TB; omega), if_neg (by unfold TI; omega), if_neg (by unfold TR; omega)]
theorem o_adT {s : St} {m : Int} (hm : 0 ≤ m ∧ m ≤ 7) {q k : Int} (hq : ¬ (11 ≤ q ∧ q ≤ 20)) : adT s 0 m 1 q k = s q k := by
  unfold adT
  rw [if_neg (by unfold TB; omega), if_neg (by unfold TR; omega)]
theorem o_rmW {s : St} {d m : Int} (hd : 0 ≤ d) (hm : m ≤ 6 ∧ 0 ≤ m) {q k : Int} (hq : ¬ (11 ≤ q ∧ q ≤ 20)) : rmW s 0 d m m 0 q k = s q k := by
  unfold rmW
  rw [if_neg (by unfold TB; omega), if_neg (by unfold TI; omega), if_neg (by unfold TR; omega), if_neg (by unfold TR; omega)]
theorem o_rmT {s : St} {d m : Int} (hm : 0 ≤ m ∧ m ≤ 7) {q k : Int} (hq : ¬ (11 ≤ q ∧ q ≤ 20)) : rmT s 0 d m d q k = s q k := by
  unfold rmT
  rw [if_neg (by unfold TB; omega), if_neg (by unfold TR; omega), if_neg (by unfold TR; omega)]
theorem o_muC {s : St} {w f n : Int} (hw : 0 ≤ w ∧ w < 7) {q k : Int} (hq : ¬ (11 ≤ q ∧ q ≤ 20)) : muC s 0 w f n q k = s q k := by
  unfold muC
  rw [if_neg (by unfold TI; omega), if_neg (by unfold TR; omega)]
theorem fl_o {σ : St} {a b v q k : Int} (hq : q ≠ 80) : fl σ a b v q k = σ q k := by unfold fl; rw [if_neg (by omega)]
theorem p_wk {σ : St} {x q k : Int} (hq : q ≠ 80) : wkM σ x q k = chg σ q k := by unfold wkM; rw [up_o (by omega), fl_o hq, up_o (by omega)]
theorem p_ts {σ : St} {q k : Int} (hq : q ≠ 80) : tsM σ q k = chg σ q k := by unfold tsM flc; rw [up_o (by omega), if_neg (by omega)]
theorem p_dw {σ : St} {d q k : Int} (hq : q ≠ 80) : dwM σ d q k = chg σ q k := by unfold dwM drw; rw [if_neg (by omega), if_neg (by omega), up_o (by omega)]
theorem p_dt {σ : St} {d q k : Int} (hq : q ≠ 80) : dtM σ d q k = chg σ q k := by unfold dtM drt; rw [if_neg (by omega), up_o (by omega)]
theorem p_pr {σ : St} {w t c q k : Int} (hq : q ≠ 80) : prM σ w t c q k = chg σ q k := by unfold prM; rw [up_o (by omega)]
theorem p_tm {σ : St} {w f q k : Int} (hq : q ≠ 80) : tmM σ w f q k = chg σ q k := by unfold tmM tmA; rw [if_neg (by omega), up_o (by omega)]
theorem p_rd {σ : St} {q k : Int} (hq : q ≠ 80) : rdF σ q k = chg σ q k := by unfold rdF rdA; rw [if_neg (by omega), if_neg (by omega), up_o (by omega), up_o (by omega)]
theorem s_worker {σ σ1 : St} {x1 z1 : Int} (h : LI σ) (h1 : z1 = (if 0 ≤ x1 ∧ x1 ≤ 9999 then (if σ (TB 0) 0 < 7 then σ (TB 0) 0 else -3) else -1) ∧ σ1 = (if (0 ≤ x1 ∧ x1 ≤ 9999) ∧ σ (TB 0) 0 < 7 then adW (kp σ) 0 x1 (kp σ (TB 0) 1) 1 else σ)) : AG σ σ1 ∧ ∀ z2 σ2, (z2 = (if 0 ≤ x1 ∧ x1 ≤ 9999 then (if σ1 80 0 < 7 then σ1 80 0 else -3) else -1) ∧ σ2 = (if (0 ≤ x1 ∧ x1 ≤ 9999) ∧ σ1 80 0 < 7 then wkM σ1 x1 else σ1)) → z1 = z2 ∧ LI σ2 := by
  obtain ⟨hz, hσ⟩ := h1
  obtain ⟨⟨k0, k1⟩, ⟨t0, t1⟩, ⟨hm, hn⟩, bI, bC, eI', eC'⟩ := h.k
  (try rw [t0] at hz)
  (try rw [t1] at hz)
  (try rw [t0] at hσ)
  (try rw [t1] at hσ)
  have hE0 := h.e
  by_cases hc : (0 ≤ x1 ∧ x1 ≤ 9999) ∧ σ 80 0 < 7
  · rw [if_pos hc] at hσ
    have oo : ∀ q k, ¬ (11 ≤ q ∧ q ≤ 20) → σ1 q k = kp σ q k := fun q k hq => by rw [hσ]; exact o_adW (by omega) hq
    have co : CO σ σ1 := fun q k _ _ _ _ a _ _ _ => oo q k a
    have ag := ag_oo oo h
    refine ⟨ag, fun z2 σ2 h2 => ?_⟩
    obtain ⟨h2a, h2b⟩ := h2
    have e80 := ag.a80
    have eI : ∀ w, 0 ≤ w → w < σ 80 0 → kp σ (TI 0) w = σ1 80 (2 + w) := fun w a b => by rw [e80]; exact eI' w a b
    have eC : ∀ w j, 0 ≤ w → w < σ 80 0 → 0 ≤ j → j < σ 80 1 → kp σ (TR 0 w) j = σ1 80 (9 + 7 * w + j) := fun w j a b c d => by rw [e80]; exact eC' w j a b c d
    have mI : ∀ w, 0 ≤ w → w < 7 → 0 ≤ σ1 80 (2 + w) ∧ σ1 80 (2 + w) ≤ 9999 := fun w a b => by rw [e80]; exact h.2.1.1.2.2.1 w a b
    have mC : ∀ w j, 0 ≤ w → w < 7 → 0 ≤ j → j < 7 → -1 ≤ σ1 80 (9 + 7 * w + j) ∧ σ1 80 (9 + 7 * w + j) ≤ 9999 := fun w j a b c d => by rw [e80]; exact h.2.1.1.2.2.2 w j a b c d
    (try simp only [e80] at h2a)
    (try simp only [e80] at h2b)
    skip
    rw [if_pos hc] at h2b
    refine ⟨by rw [hz, h2a], ?_⟩
    have hR := r_adW (x := x1) k0 rfl ⟨hm.1, hc.2⟩
    rw [← hσ] at hR
    have hG := g_wk (x := x1) (e80 0) (e80 1) ⟨hm.1, hc.2⟩
    rw [← h2b] at hG
    exact h.op co (h.t5 oo) (fun q k a _ => by rw [h2b]; exact p_wk a) hR hG ⟨by omega, by omega, fun w x y => by
      (try dsimp only)
      repeat' first | with_reducible refine ite_bd (fun h => ?_) (fun h => ?_)
      all_goals first | omega | exact bI _ (by omega) (by omega) | exact bC _ _ (by omega) (by omega) (by omega) (by omega) | exact mI _ (by omega) (by omega) | exact mC _ _ (by omega) (by omega) (by omega) (by omega), fun w j x y z u => by
      (try dsimp only)
      repeat' first | with_reducible refine ite_bd (fun h => ?_) (fun h => ?_)
      all_goals first | omega | exact bI _ (by omega) (by omega) | exact bC _ _ (by omega) (by omega) (by omega) (by omega) | exact mI _ (by omega) (by omega) | exact mC _ _ (by omega) (by omega) (by omega) (by omega)⟩ ⟨by omega, by omega, fun w x y => by
      (try dsimp only)
      repeat' first | with_reducible refine ite_bd (fun h => ?_) (fun h => ?_)
      all_goals first | omega | exact bI _ (by omega) (by omega) | exact bC _ _ (by omega) (by omega) (by omega) (by omega) | exact mI _ (by omega) (by omega) | exact mC _ _ (by omega) (by omega) (by omega) (by omega), fun w j x y z u => by
      (try dsimp only)
      repeat' first | with_reducible refine ite_bd (fun h => ?_) (fun h => ?_)
      all_goals first | omega | exact bI _ (by omega) (by omega) | exact bC _ _ (by omega) (by omega) (by omega) (by omega) | exact mI _ (by omega) (by omega) | exact mC _ _ (by omega) (by omega) (by omega) (by omega)⟩ (by omega) (by omega) (fun w x y => by
      (try dsimp only)
      repeat' first | with_reducible refine ite_l (fun h => ?_) (fun h => ?_) | with_reducible refine ite_r (fun h => ?_) (fun h => ?_)
      all_goals first | rfl | omega | exact eI _ (by omega) (by omega) | exact eC _ _ (by omega) (by omega) (by omega) (by omega)) (fun w j x y z u => by
      (try dsimp only)
      repeat' first | with_reducible refine ite_l (fun h => ?_) (fun h => ?_) | with_reducible refine ite_r (fun h => ?_) (fun h => ?_)
      all_goals first | rfl | omega | exact eI _ (by omega) (by omega) | exact eC _ _ (by omega) (by omega) (by omega) (by omega))
  · rw [if_neg hc] at hσ
    rw [hσ]
    refine ⟨AG.rf, fun z2 σ2 h2 => ?_⟩
    obtain ⟨h2a, h2b⟩ := h2
    skip
    rw [if_neg hc] at h2b
    exact ⟨by rw [hz, h2a], by rw [h2b]; exact h⟩
theorem s_task {σ σ1 : St} {z1 : Int} (h : LI σ) (h1 : z1 = (if σ (TB 0) 1 < 7 then σ (TB 0) 1 else -3) ∧ σ1 = (if σ (TB 0) 1 < 7 then adT (kp σ) 0 (kp σ (TB 0) 0) 1 else σ)) : AG σ σ1 ∧ ∀ z2 σ2, (z2 = (if σ1 80 1 < 7 then σ1 80 1 else -3) ∧ σ2 = (if σ1 80 1 < 7 then tsM σ1 else σ1)) → z1 = z2 ∧ LI σ2 := by
  obtain ⟨hz, hσ⟩ := h1
  obtain ⟨⟨k0, k1⟩, ⟨t0, t1⟩, ⟨hm, hn⟩, bI, bC, eI', eC'⟩ := h.k
  (try rw [t0] at hz)
  (try rw [t1] at hz)
  (try rw [t0] at hσ)
  (try rw [t1] at hσ)
  have hE0 := h.e
  by_cases hc : σ 80 1 < 7
  · rw [if_pos hc] at hσ
    have oo : ∀ q k, ¬ (11 ≤ q ∧ q ≤ 20) → σ1 q k = kp σ q k := fun q k hq => by rw [hσ]; exact o_adT (by omega) hq
    have co : CO σ σ1 := fun q k _ _ _ _ a _ _ _ => oo q k a
    have ag := ag_oo oo h
    refine ⟨ag, fun z2 σ2 h2 => ?_⟩
    obtain ⟨h2a, h2b⟩ := h2
    have e80 := ag.a80
    have eI : ∀ w, 0 ≤ w → w < σ 80 0 → kp σ (TI 0) w = σ1 80 (2 + w) := fun w a b => by rw [e80]; exact eI' w a b
    have eC : ∀ w j, 0 ≤ w → w < σ 80 0 → 0 ≤ j → j < σ 80 1 → kp σ (TR 0 w) j = σ1 80 (9 + 7 * w + j) := fun w j a b c d => by rw [e80]; exact eC' w j a b c d
    have mI : ∀ w, 0 ≤ w → w < 7 → 0 ≤ σ1 80 (2 + w) ∧ σ1 80 (2 + w) ≤ 9999 := fun w a b => by rw [e80]; exact h.2.1.1.2.2.1 w a b
    have mC : ∀ w j, 0 ≤ w → w < 7 → 0 ≤ j → j < 7 → -1 ≤ σ1 80 (9 + 7 * w + j) ∧ σ1 80 (9 + 7 * w + j) ≤ 9999 := fun w j a b c d => by rw [e80]; exact h.2.1.1.2.2.2 w j a b c d
    (try simp only [e80] at h2a)
    (try simp only [e80] at h2b)
    skip
    rw [if_pos hc] at h2b
    refine ⟨by rw [hz, h2a], ?_⟩
    have hR := r_adT (s := kp σ) rfl k1 (by omega)
    rw [← hσ] at hR
    have hG := g_ts (e80 0) (e80 1) (by omega)
    rw [← h2b] at hG
    exact h.op co (h.t5 oo) (fun q k a _ => by rw [h2b]; exact p_ts a) hR hG ⟨by omega, by omega, fun w x y => by
      (try dsimp only)
      repeat' first | with_reducible refine ite_bd (fun h => ?_) (fun h => ?_)
      all_goals first | omega | exact bI _ (by omega) (by omega) | exact bC _ _ (by omega) (by omega) (by omega) (by omega) | exact mI _ (by omega) (by omega) | exact mC _ _ (by omega) (by omega) (by omega) (by omega), fun w j x y z u => by
      (try dsimp only)
      repeat' first | with_reducible refine ite_bd (fun h => ?_) (fun h => ?_)
      all_goals first | omega | exact bI _ (by omega) (by omega) | exact bC _ _ (by omega) (by omega) (by omega) (by omega) | exact mI _ (by omega) (by omega) | exact mC _ _ (by omega) (by omega) (by omega) (by omega)⟩ ⟨by omega, by omega, fun w x y => by
      (try dsimp only)
      repeat' first | with_reducible refine ite_bd (fun h => ?_) (fun h => ?_)
      all_goals first | omega | exact bI _ (by omega) (by omega) | exact bC _ _ (by omega) (by omega) (by omega) (by omega) | exact mI _ (by omega) (by omega) | exact mC _ _ (by omega) (by omega) (by omega) (by omega), fun w j x y z u => by
      (try dsimp only)
      repeat' first | with_reducible refine ite_bd (fun h => ?_) (fun h => ?_)
      all_goals first | omega | exact bI _ (by omega) (by omega) | exact bC _ _ (by omega) (by omega) (by omega) (by omega) | exact mI _ (by omega) (by omega) | exact mC _ _ (by omega) (by omega) (by omega) (by omega)⟩ (by omega) (by omega) (fun w x y => by
      (try dsimp only)
      repeat' first | with_reducible refine ite_l (fun h => ?_) (fun h => ?_) | with_reducible refine ite_r (fun h => ?_) (fun h => ?_)
      all_goals first | rfl | omega | exact eI _ (by omega) (by omega) | exact eC _ _ (by omega) (by omega) (by omega) (by omega)) (fun w j x y z u => by
      (try dsimp only)
      repeat' first | with_reducible refine ite_l (fun h => ?_) (fun h => ?_) | with_reducible refine ite_r (fun h => ?_) (fun h => ?_)
      all_goals first | rfl | omega | exact eI _ (by omega) (by omega) | exact eC _ _ (by omega) (by omega) (by omega) (by omega))
  · rw [if_neg hc] at hσ
    rw [hσ]
    refine ⟨AG.rf, fun z2 σ2 h2 => ?_⟩
    obtain ⟨h2a, h2b⟩ := h2
    skip
    rw [if_neg hc] at h2b
    exact ⟨by rw [hz, h2a], by rw [h2b]; exact h⟩
theorem s_dropWorker {σ σ1 : St} {x1 z1 : Int} (h : LI σ) (h1 : z1 = (if 0 ≤ x1 ∧ x1 < σ (TB 0) 0 then σ (TB 0) 0 - 1 else -1) ∧ σ1 = (if 0 ≤ x1 ∧ x1 < σ (TB 0) 0 then rmW (kp σ) 0 x1 (kp σ (TB 0) 0 - 1) (kp σ (TB 0) 0 - 1) 0 else σ)) : AG σ σ1 ∧ ∀ z2 σ2, (z2 = (if 0 ≤ x1 ∧ x1 < σ1 80 0 then σ1 80 0 - 1 else -1) ∧ σ2 = (if 0 ≤ x1 ∧ x1 < σ1 80 0 then dwM σ1 x1 else σ1)) → z1 = z2 ∧ LI σ2 := by
  obtain ⟨hz, hσ⟩ := h1
  obtain ⟨⟨k0, k1⟩, ⟨t0, t1⟩, ⟨hm, hn⟩, bI, bC, eI', eC'⟩ := h.k
  (try rw [t0] at hz)
  (try rw [t1] at hz)
  (try rw [t0] at hσ)
  (try rw [t1] at hσ)
  have hE0 := h.e
  by_cases hc : 0 ≤ x1 ∧ x1 < σ 80 0
  · rw [if_pos hc] at hσ
    have oo : ∀ q k, ¬ (11 ≤ q ∧ q ≤ 20) → σ1 q k = kp σ q k := fun q k hq => by rw [hσ]; exact o_rmW hc.1 (by omega) hq
    have co : CO σ σ1 := fun q k _ _ _ _ a _ _ _ => oo q k a
    have ag := ag_oo oo h
    refine ⟨ag, fun z2 σ2 h2 => ?_⟩
    obtain ⟨h2a, h2b⟩ := h2
    have e80 := ag.a80
    have eI : ∀ w, 0 ≤ w → w < σ 80 0 → kp σ (TI 0) w = σ1 80 (2 + w) := fun w a b => by rw [e80]; exact eI' w a b
    have eC : ∀ w j, 0 ≤ w → w < σ 80 0 → 0 ≤ j → j < σ 80 1 → kp σ (TR 0 w) j = σ1 80 (9 + 7 * w + j) := fun w j a b c d => by rw [e80]; exact eC' w j a b c d
    have mI : ∀ w, 0 ≤ w → w < 7 → 0 ≤ σ1 80 (2 + w) ∧ σ1 80 (2 + w) ≤ 9999 := fun w a b => by rw [e80]; exact h.2.1.1.2.2.1 w a b
    have mC : ∀ w j, 0 ≤ w → w < 7 → 0 ≤ j → j < 7 → -1 ≤ σ1 80 (9 + 7 * w + j) ∧ σ1 80 (9 + 7 * w + j) ≤ 9999 := fun w j a b c d => by rw [e80]; exact h.2.1.1.2.2.2 w j a b c d
    (try simp only [e80] at h2a)
    (try simp only [e80] at h2b)
    skip
    rw [if_pos hc] at h2b
    refine ⟨by rw [hz, h2a], ?_⟩
    have hR := r_rmW (s := kp σ) (d := x1) rfl k1 (by omega) (by omega)
    rw [← hσ] at hR
    have hG := g_dw (d := x1) (e80 0) (e80 1) hc hm.2
    rw [← h2b] at hG
    exact h.op co (h.t5 oo) (fun q k a _ => by rw [h2b]; exact p_dw a) hR hG ⟨by omega, by omega, fun w x y => by
      (try dsimp only)
      repeat' first | with_reducible refine ite_bd (fun h => ?_) (fun h => ?_)
      all_goals first | omega | exact bI _ (by omega) (by omega) | exact bC _ _ (by omega) (by omega) (by omega) (by omega) | exact mI _ (by omega) (by omega) | exact mC _ _ (by omega) (by omega) (by omega) (by omega), fun w j x y z u => by
      (try dsimp only)
      repeat' first | with_reducible refine ite_bd (fun h => ?_) (fun h => ?_)
      all_goals first | omega | exact bI _ (by omega) (by omega) | exact bC _ _ (by omega) (by omega) (by omega) (by omega) | exact mI _ (by omega) (by omega) | exact mC _ _ (by omega) (by omega) (by omega) (by omega)⟩ ⟨by omega, by omega, fun w x y => by
      (try dsimp only)
      repeat' first | with_reducible refine ite_bd (fun h => ?_) (fun h => ?_)
      all_goals first | omega | exact bI _ (by omega) (by omega) | exact bC _ _ (by omega) (by omega) (by omega) (by omega) | exact mI _ (by omega) (by omega) | exact mC _ _ (by omega) (by omega) (by omega) (by omega), fun w j x y z u => by
      (try dsimp only)
      repeat' first | with_reducible refine ite_bd (fun h => ?_) (fun h => ?_)
      all_goals first | omega | exact bI _ (by omega) (by omega) | exact bC _ _ (by omega) (by omega) (by omega) (by omega) | exact mI _ (by omega) (by omega) | exact mC _ _ (by omega) (by omega) (by omega) (by omega)⟩ (by omega) (by omega) (fun w x y => by
      (try dsimp only)
      repeat' first | with_reducible refine ite_l (fun h => ?_) (fun h => ?_) | with_reducible refine ite_r (fun h => ?_) (fun h => ?_)
      all_goals first | rfl | omega | exact eI _ (by omega) (by omega) | exact eC _ _ (by omega) (by omega) (by omega) (by omega)) (fun w j x y z u => by
      (try dsimp only)
      repeat' first | with_reducible refine ite_l (fun h => ?_) (fun h => ?_) | with_reducible refine ite_r (fun h => ?_) (fun h => ?_)
      all_goals first | rfl | omega | exact eI _ (by omega) (by omega) | exact eC _ _ (by omega) (by omega) (by omega) (by omega))
  · rw [if_neg hc] at hσ
    rw [hσ]
    refine ⟨AG.rf, fun z2 σ2 h2 => ?_⟩
    obtain ⟨h2a, h2b⟩ := h2
    skip
    rw [if_neg hc] at h2b
    exact ⟨by rw [hz, h2a], by rw [h2b]; exact h⟩
theorem s_dropTask {σ σ1 : St} {x1 z1 : Int} (h : LI σ) (h1 : z1 = (if 0 ≤ x1 ∧ x1 < σ (TB 0) 1 then σ (TB 0) 1 - 1 else -1) ∧ σ1 = (if 0 ≤ x1 ∧ x1 < σ (TB 0) 1 then rmT (kp σ) 0 x1 (kp σ (TB 0) 0) x1 else σ)) : AG σ σ1 ∧ ∀ z2 σ2, (z2 = (if 0 ≤ x1 ∧ x1 < σ1 80 1 then σ1 80 1 - 1 else -1) ∧ σ2 = (if 0 ≤ x1 ∧ x1 < σ1 80 1 then dtM σ1 x1 else σ1)) → z1 = z2 ∧ LI σ2 := by
  obtain ⟨hz, hσ⟩ := h1
  obtain ⟨⟨k0, k1⟩, ⟨t0, t1⟩, ⟨hm, hn⟩, bI, bC, eI', eC'⟩ := h.k
  (try rw [t0] at hz)
  (try rw [t1] at hz)
  (try rw [t0] at hσ)
  (try rw [t1] at hσ)
  have hE0 := h.e
  by_cases hc : 0 ≤ x1 ∧ x1 < σ 80 1
  · rw [if_pos hc] at hσ
    have oo : ∀ q k, ¬ (11 ≤ q ∧ q ≤ 20) → σ1 q k = kp σ q k := fun q k hq => by rw [hσ]; exact o_rmT (by omega) hq
    have co : CO σ σ1 := fun q k _ _ _ _ a _ _ _ => oo q k a
    have ag := ag_oo oo h
    refine ⟨ag, fun z2 σ2 h2 => ?_⟩
    obtain ⟨h2a, h2b⟩ := h2
    have e80 := ag.a80
    have eI : ∀ w, 0 ≤ w → w < σ 80 0 → kp σ (TI 0) w = σ1 80 (2 + w) := fun w a b => by rw [e80]; exact eI' w a b
    have eC : ∀ w j, 0 ≤ w → w < σ 80 0 → 0 ≤ j → j < σ 80 1 → kp σ (TR 0 w) j = σ1 80 (9 + 7 * w + j) := fun w j a b c d => by rw [e80]; exact eC' w j a b c d
    have mI : ∀ w, 0 ≤ w → w < 7 → 0 ≤ σ1 80 (2 + w) ∧ σ1 80 (2 + w) ≤ 9999 := fun w a b => by rw [e80]; exact h.2.1.1.2.2.1 w a b
    have mC : ∀ w j, 0 ≤ w → w < 7 → 0 ≤ j → j < 7 → -1 ≤ σ1 80 (9 + 7 * w + j) ∧ σ1 80 (9 + 7 * w + j) ≤ 9999 := fun w j a b c d => by rw [e80]; exact h.2.1.1.2.2.2 w j a b c d
    (try simp only [e80] at h2a)
    (try simp only [e80] at h2b)
    skip
    rw [if_pos hc] at h2b
    refine ⟨by rw [hz, h2a], ?_⟩
    have hR := r_rmT (s := kp σ) (d := x1) rfl k1 hc (by omega)
    rw [← hσ] at hR
    have hG := g_dt (d := x1) (e80 0) (e80 1) hc hn.2 hm
    rw [← h2b] at hG
    exact h.op co (h.t5 oo) (fun q k a _ => by rw [h2b]; exact p_dt a) hR hG ⟨by omega, by omega, fun w x y => by
      (try dsimp only)
      repeat' first | with_reducible refine ite_bd (fun h => ?_) (fun h => ?_)
      all_goals first | omega | exact bI _ (by omega) (by omega) | exact bC _ _ (by omega) (by omega) (by omega) (by omega) | exact mI _ (by omega) (by omega) | exact mC _ _ (by omega) (by omega) (by omega) (by omega), fun w j x y z u => by
      (try dsimp only)
      repeat' first | with_reducible refine ite_bd (fun h => ?_) (fun h => ?_)
      all_goals first | omega | exact bI _ (by omega) (by omega) | exact bC _ _ (by omega) (by omega) (by omega) (by omega) | exact mI _ (by omega) (by omega) | exact mC _ _ (by omega) (by omega) (by omega) (by omega)⟩ ⟨by omega, by omega, fun w x y => by
      (try dsimp only)
      repeat' first | with_reducible refine ite_bd (fun h => ?_) (fun h => ?_)
      all_goals first | omega | exact bI _ (by omega) (by omega) | exact bC _ _ (by omega) (by omega) (by omega) (by omega) | exact mI _ (by omega) (by omega) | exact mC _ _ (by omega) (by omega) (by omega) (by omega), fun w j x y z u => by
      (try dsimp only)
      repeat' first | with_reducible refine ite_bd (fun h => ?_) (fun h => ?_)
      all_goals first | omega | exact bI _ (by omega) (by omega) | exact bC _ _ (by omega) (by omega) (by omega) (by omega) | exact mI _ (by omega) (by omega) | exact mC _ _ (by omega) (by omega) (by omega) (by omega)⟩ (by omega) (by omega) (fun w x y => by
      (try dsimp only)
      repeat' first | with_reducible refine ite_l (fun h => ?_) (fun h => ?_) | with_reducible refine ite_r (fun h => ?_) (fun h => ?_)
      all_goals first | rfl | omega | exact eI _ (by omega) (by omega) | exact eC _ _ (by omega) (by omega) (by omega) (by omega)) (fun w j x y z u => by
      (try dsimp only)
      repeat' first | with_reducible refine ite_l (fun h => ?_) (fun h => ?_) | with_reducible refine ite_r (fun h => ?_) (fun h => ?_)
      all_goals first | rfl | omega | exact eI _ (by omega) (by omega) | exact eC _ _ (by omega) (by omega) (by omega) (by omega))
  · rw [if_neg hc] at hσ
    rw [hσ]
    refine ⟨AG.rf, fun z2 σ2 h2 => ?_⟩
    obtain ⟨h2a, h2b⟩ := h2
    skip
    rw [if_neg hc] at h2b
    exact ⟨by rw [hz, h2a], by rw [h2b]; exact h⟩
theorem s_idle {σ σ1 : St} {x1 x2 z1 : Int} (h : LI σ) (h1 : z1 = (if (0 ≤ x1 ∧ x1 < σ (TB 0) 0) ∧ 0 ≤ x2 ∧ x2 ≤ 9999 then σ (TI 0) x1 else -1) ∧ σ1 = (if (0 ≤ x1 ∧ x1 < σ (TB 0) 0) ∧ 0 ≤ x2 ∧ x2 ≤ 9999 then up (kp σ) (TI 0) x1 x2 else σ)) : AG σ σ1 ∧ ∀ z2 σ2, (z2 = (if (0 ≤ x1 ∧ x1 < σ1 80 0) ∧ 0 ≤ x2 ∧ x2 ≤ 9999 then dM σ1 x1 else -1) ∧ σ2 = (if (0 ≤ x1 ∧ x1 < σ1 80 0) ∧ 0 ≤ x2 ∧ x2 ≤ 9999 then up (chg σ1) 80 (2 + x1) x2 else σ1)) → z1 = z2 ∧ LI σ2 := by
  obtain ⟨hz, hσ⟩ := h1
  obtain ⟨⟨k0, k1⟩, ⟨t0, t1⟩, ⟨hm, hn⟩, bI, bC, eI', eC'⟩ := h.k
  (try rw [t0] at hz)
  (try rw [t1] at hz)
  (try rw [t0] at hσ)
  (try rw [t1] at hσ)
  have hE0 := h.e
  by_cases hc : (0 ≤ x1 ∧ x1 < σ 80 0) ∧ 0 ≤ x2 ∧ x2 ≤ 9999
  · rw [if_pos hc] at hσ
    have oo : ∀ q k, ¬ (11 ≤ q ∧ q ≤ 20) → σ1 q k = kp σ q k := fun q k hq => by rw [hσ]; exact up_o (by unfold TI; omega)
    have co : CO σ σ1 := fun q k _ _ _ _ a _ _ _ => oo q k a
    have ag := ag_oo oo h
    refine ⟨ag, fun z2 σ2 h2 => ?_⟩
    obtain ⟨h2a, h2b⟩ := h2
    have e80 := ag.a80
    have eI : ∀ w, 0 ≤ w → w < σ 80 0 → kp σ (TI 0) w = σ1 80 (2 + w) := fun w a b => by rw [e80]; exact eI' w a b
    have eC : ∀ w j, 0 ≤ w → w < σ 80 0 → 0 ≤ j → j < σ 80 1 → kp σ (TR 0 w) j = σ1 80 (9 + 7 * w + j) := fun w j a b c d => by rw [e80]; exact eC' w j a b c d
    have mI : ∀ w, 0 ≤ w → w < 7 → 0 ≤ σ1 80 (2 + w) ∧ σ1 80 (2 + w) ≤ 9999 := fun w a b => by rw [e80]; exact h.2.1.1.2.2.1 w a b
    have mC : ∀ w j, 0 ≤ w → w < 7 → 0 ≤ j → j < 7 → -1 ≤ σ1 80 (9 + 7 * w + j) ∧ σ1 80 (9 + 7 * w + j) ≤ 9999 := fun w j a b c d => by rw [e80]; exact h.2.1.1.2.2.2 w j a b c d
    (try simp only [e80] at h2a)
    (try simp only [e80] at h2b)
    have hd : σ (TI 0) x1 = dM σ1 x1 := by rw [hE0.d hc.1]; exact (e80 _).symm
    rw [if_pos hc, hd] at hz
    rw [if_pos hc] at h2a
    rw [if_pos hc] at h2b
    refine ⟨by rw [hz, h2a], ?_⟩
    have hR := r_id (s := kp σ) (v := x1) (x := x2) k0 k1
    rw [← hσ] at hR
    have hG := g_id (v := x1) (x := x2) (e80 0) (e80 1) (by omega)
    rw [← h2b] at hG
    exact h.op co (h.t5 oo) (fun q k a _ => by rw [h2b]; exact (fun a => up_o (fun e => a e.1)) a) hR hG ⟨by omega, by omega, fun w x y => by
      (try dsimp only)
      repeat' first | with_reducible refine ite_bd (fun h => ?_) (fun h => ?_)
      all_goals first | omega | exact bI _ (by omega) (by omega) | exact bC _ _ (by omega) (by omega) (by omega) (by omega) | exact mI _ (by omega) (by omega) | exact mC _ _ (by omega) (by omega) (by omega) (by omega), fun w j x y z u => by
      (try dsimp only)
      repeat' first | with_reducible refine ite_bd (fun h => ?_) (fun h => ?_)
      all_goals first | omega | exact bI _ (by omega) (by omega) | exact bC _ _ (by omega) (by omega) (by omega) (by omega) | exact mI _ (by omega) (by omega) | exact mC _ _ (by omega) (by omega) (by omega) (by omega)⟩ ⟨by omega, by omega, fun w x y => by
      (try dsimp only)
      repeat' first | with_reducible refine ite_bd (fun h => ?_) (fun h => ?_)
      all_goals first | omega | exact bI _ (by omega) (by omega) | exact bC _ _ (by omega) (by omega) (by omega) (by omega) | exact mI _ (by omega) (by omega) | exact mC _ _ (by omega) (by omega) (by omega) (by omega), fun w j x y z u => by
      (try dsimp only)
      repeat' first | with_reducible refine ite_bd (fun h => ?_) (fun h => ?_)
      all_goals first | omega | exact bI _ (by omega) (by omega) | exact bC _ _ (by omega) (by omega) (by omega) (by omega) | exact mI _ (by omega) (by omega) | exact mC _ _ (by omega) (by omega) (by omega) (by omega)⟩ (by omega) (by omega) (fun w x y => by
      (try dsimp only)
      repeat' first | with_reducible refine ite_l (fun h => ?_) (fun h => ?_) | with_reducible refine ite_r (fun h => ?_) (fun h => ?_)
      all_goals first | rfl | omega | exact eI _ (by omega) (by omega) | exact eC _ _ (by omega) (by omega) (by omega) (by omega)) (fun w j x y z u => by
      (try dsimp only)
      repeat' first | with_reducible refine ite_l (fun h => ?_) (fun h => ?_) | with_reducible refine ite_r (fun h => ?_) (fun h => ?_)
      all_goals first | rfl | omega | exact eI _ (by omega) (by omega) | exact eC _ _ (by omega) (by omega) (by omega) (by omega))
  · rw [if_neg hc] at hσ
    rw [hσ]
    refine ⟨AG.rf, fun z2 σ2 h2 => ?_⟩
    obtain ⟨h2a, h2b⟩ := h2
    rw [if_neg hc] at hz h2a
    rw [if_neg hc] at h2b
    exact ⟨by rw [hz, h2a], by rw [h2b]; exact h⟩
theorem R4.of {σ σ' : St} {M N : Int} {fi : Int → Int} {fc : Int → Int → Int} (h : R4 σ M N fi fc) (hv : ∀ q k, 11 ≤ q → q ≤ 20 → σ' q k = σ q k) : R4 σ' M N fi fc := by
  obtain ⟨h0, h1, h2, h3⟩ := h
  refine ⟨by rw [hv _ _ (by unfold TB; omega) (by unfold TB; omega)]; exact h0, by rw [hv _ _ (by unfold TB; omega) (by unfold TB; omega)]; exact h1, fun w a b => by rw [hv _ _ (by unfold TI; omega) (by unfold TI; omega)]; exact h2 w a b, fun w j a b c d => by rw [hv _ _ (by unfold TR; omega) (by unfold TR; omega)]; exact h3 w j a b c d⟩
theorem RW_c {σ σ' : St} (hT : TOK σ 0) (hv : ∀ q k, 11 ≤ q → q ≤ 20 → σ' q k = σ q k) (wk w tk : Int) (hw : 0 ≤ w) : RW σ' wk w tk = RW σ wk w tk := by
  have hm := hT.1
  unfold RW LTc
  rw [hv (TB 0) 0 (by unfold TB; omega) (by unfold TB; omega), hv (TB 0) 1 (by unfold TB; omega) (by unfold TB; omega)]
  refine LT_congr hT.2.1.1 _ (fun v _ => hv _ _ (by unfold TI; omega) (by unfold TI; omega)) (fun v hvv j _ _ => ?_) tk
  have := wl_in _ v hvv
  exact hv _ _ (by unfold TR; omega) (by unfold TR; omega)
theorem AW_c {σ σ' : St} (hv : ∀ q k, 11 ≤ q → q ≤ 20 → σ' q k = σ q k) : AW σ' = AW σ := by
  unfold AW
  rw [hv (TB 0) 0 (by unfold TB; omega) (by unfold TB; omega)]
theorem s_times {σ σ1 : St} {x1 x2 z1 : Int} (h : LI σ) (h1 : z1 = (if (0 ≤ x1 ∧ x1 < σ (TB 0) 0) ∧ 0 ≤ x2 ∧ x2 ≤ 2000000000 then (if gC σ 0 x1 (σ (TB 0) 1) * x2 ≤ 9999 then gC σ 0 x1 (σ (TB 0) 1) * x2 else -3) else -1) ∧ σ1 = (if ((0 ≤ x1 ∧ x1 < σ (TB 0) 0) ∧ 0 ≤ x2 ∧ x2 ≤ 2000000000) ∧ gC σ 0 x1 (σ (TB 0) 1) * x2 ≤ 9999 then muC (kp σ) 0 x1 x2 (kp σ (TB 0) 1) else σ)) : AG σ σ1 ∧ ∀ z2 σ2, (z2 = (if (0 ≤ x1 ∧ x1 < σ1 80 0) ∧ 0 ≤ x2 ∧ x2 ≤ 2000000000 then (if gOM σ1 x1 (σ1 80 1) * x2 ≤ 9999 then gOM σ1 x1 (σ1 80 1) * x2 else -3) else -1) ∧ σ2 = (if ((0 ≤ x1 ∧ x1 < σ1 80 0) ∧ 0 ≤ x2 ∧ x2 ≤ 2000000000) ∧ gOM σ1 x1 (σ1 80 1) * x2 ≤ 9999 then tmM σ1 x1 x2 else σ1)) → z1 = z2 ∧ LI σ2 := by
  obtain ⟨hz, hσ⟩ := h1
  obtain ⟨⟨k0, k1⟩, ⟨t0, t1⟩, ⟨hm, hn⟩, bI, bC, eI', eC'⟩ := h.k
  have hE0 := h.e
  by_cases hw : (0 ≤ x1 ∧ x1 < σ 80 0) ∧ 0 ≤ x2 ∧ x2 ≤ 2000000000
  · have hg := e_gO hE0 hw.1
    rw [hg, t0] at hz hσ
    by_cases hc : gOM σ x1 (σ 80 1) * x2 ≤ 9999
    · rw [if_pos ⟨hw, hc⟩] at hσ
      have oo : ∀ q k, ¬ (11 ≤ q ∧ q ≤ 20) → σ1 q k = kp σ q k := fun q k hq => by rw [hσ]; exact o_muC (by omega) hq
      have co : CO σ σ1 := fun q k _ _ _ _ a _ _ _ => oo q k a
      have ag := ag_oo oo h
      refine ⟨ag, fun z2 σ2 h2 => ?_⟩
      obtain ⟨h2a, h2b⟩ := h2
      have e80 := ag.a80
      rw [ag.gO, e80, e80] at h2a h2b
      rw [if_pos ⟨hw, hc⟩] at h2b
      refine ⟨by rw [hz, h2a], ?_⟩
      have hM := h.2.1.1
      have hu := gOM_u hM (w := x1) (by omega)
      have hd := hM.2.2.1 x1 (by omega) (by omega)
      have edm : dM σ x1 = σ 80 (2 + x1) := rfl
      have pI := mul_b (a := dM σ x1) (by omega) hu.2.1 hw.2.1 hc
      have pC : ∀ j, 0 ≤ j → j < σ 80 1 → cM σ x1 j ≠ -1 → 0 ≤ cM σ x1 j * x2 ∧ cM σ x1 j * x2 ≤ 9999 := fun j a b c => by
        have hj := hM.2.2.2 x1 j (by omega) (by omega) a (by omega)
        have ecm : cM σ x1 j = σ 80 (9 + 7 * x1 + j) := rfl
        exact mul_b (by omega) (hu.2.2 j a b) hw.2.1 hc
      have cI : kp σ (TI 0) x1 = dM σ x1 := eI' x1 hw.1.1 hw.1.2
      have cC : ∀ j, 0 ≤ j → j < σ 80 1 → kp σ (TR 0 x1) j = cM σ x1 j := fun j a b => eC' x1 j hw.1.1 hw.1.2 a b
      have hR := r_muC (s := kp σ) (v := x1) (f := x2) k0 rfl (by omega)
      rw [← hσ, k1] at hR
      have hG := g_tm (v := x1) (f := x2) (e80 0) (e80 1) (by omega) hn.2
      have hT2 := MT.tm (σ := σ1) (by rw [ag.f (by omega)]; exact hM) (w := x1) (f := x2) (by omega) hw.2.1 (by rw [ag.gO, e80]; exact hc)
      rw [← h2b] at hG hT2
      refine h.ch co (h.t5 oo) (fun q k a _ => by rw [h2b]; exact p_tm a) (hR.tok ⟨hm, hn, fun w a b => ?_, fun w j a b c d => ?_⟩) hT2 (hR.teq hG ⟨rfl, hm.2⟩ ⟨rfl, hn.2⟩ (fun w a b => ?_) (fun w j a b c d => ?_))
      · by_cases hv : w = x1
        · show 0 ≤ (if w = x1 then _ else _) ∧ (if w = x1 then _ else _) ≤ _
          rw [if_pos hv, cI]; exact pI
        · show 0 ≤ (if w = x1 then _ else _) ∧ (if w = x1 then _ else _) ≤ _
          rw [if_neg hv]; exact bI w a b
      · by_cases hv : w = x1 ∧ j < σ 80 1 ∧ kp σ (TR 0 x1) j ≠ -1
        · show -1 ≤ (if w = x1 ∧ j < σ 80 1 ∧ kp σ (TR 0 x1) j ≠ -1 then _ else _) ∧ (if w = x1 ∧ j < σ 80 1 ∧ kp σ (TR 0 x1) j ≠ -1 then _ else _) ≤ _
          rw [if_pos hv, cC j c hv.2.1]
          have := pC j c hv.2.1 (by rw [← cC j c hv.2.1]; exact hv.2.2)
          omega
        · show -1 ≤ (if w = x1 ∧ j < σ 80 1 ∧ kp σ (TR 0 x1) j ≠ -1 then _ else _) ∧ (if w = x1 ∧ j < σ 80 1 ∧ kp σ (TR 0 x1) j ≠ -1 then _ else _) ≤ _
          rw [if_neg hv]; exact bC w j a b c d
      · by_cases hv : w = x1
        · show (if w = x1 then _ else _) = (if w = x1 then _ else _)
          rw [if_pos hv, if_pos hv, cI, e80]; rfl
        · show (if w = x1 then _ else _) = (if w = x1 then _ else _)
          rw [if_neg hv, if_neg hv, e80]; exact eI' w a b
      · show (if w = x1 ∧ j < σ 80 1 ∧ kp σ (TR 0 x1) j ≠ -1 then _ else _) = (if w = x1 ∧ j < σ 80 1 then _ else _)
        by_cases hv : w = x1
        · have ecm : cM σ x1 j = σ 80 (9 + 7 * x1 + j) := rfl
          have hj := hM.2.2.2 x1 j (by omega) (by omega) c (by omega)
          rw [if_pos (show w = x1 ∧ j < σ 80 1 from ⟨hv, d⟩), cC j c d, e80, ← ecm]
          by_cases hq : cM σ x1 j = -1
          · rw [if_neg (by omega), if_neg (by omega), hv, cC j c d]
          · rw [if_pos ⟨hv, d, hq⟩]
            by_cases h0 : 0 < cM σ x1 j
            · rw [if_pos h0]
            · rw [if_neg h0, show cM σ x1 j = 0 by omega, Int.zero_mul]
        · rw [if_neg (fun e => hv e.1), if_neg (fun e => hv e.1), e80]; exact eC' w j a b c d
    · rw [if_neg (fun e => hc e.2)] at hσ
      rw [hσ]
      refine ⟨AG.rf, fun z2 σ2 h2 => ?_⟩
      obtain ⟨h2a, h2b⟩ := h2
      rw [if_neg (fun e => hc e.2)] at h2b
      exact ⟨by rw [hz, h2a], by rw [h2b]; exact h⟩
  · rw [t0] at hz hσ
    rw [if_neg hw] at hz
    rw [if_neg (fun e => hw e.1)] at hσ
    rw [hσ]
    refine ⟨AG.rf, fun z2 σ2 h2 => ?_⟩
    obtain ⟨h2a, h2b⟩ := h2
    rw [if_neg hw] at h2a
    rw [if_neg (fun e => hw e.1)] at h2b
    exact ⟨by rw [hz, h2a], by rw [h2b]; exact h⟩
/-- a pair's cost changed, on both sides -/
theorem LI.pr {σ σ1 : St} {v i c : Int} (h : LI σ) (hv : 0 ≤ v ∧ v < σ 80 0) (hi : 0 ≤ i ∧ i < σ 80 1) (hc : -1 ≤ c ∧ c ≤ 9999) (hq : QQ (up (kp σ) (TR 0 v) i c) σ1) : AG σ σ1 ∧ LI (prM σ1 v i c) ∧ RW (up (kp σ) (TR 0 v) i c) (AW (up (kp σ) (TR 0 v) i c)) 0 0 = totM (prM σ1 v i c) := by
  obtain ⟨⟨k0, k1⟩, ⟨t0, t1⟩, ⟨hm, hn⟩, bI, bC, eI', eC'⟩ := h.k
  have ou : ∀ q k, ¬ (11 ≤ q ∧ q ≤ 20) → up (kp σ) (TR 0 v) i c q k = kp σ q k := fun q k a => up_o (fun e => a (by rw [e.1]; unfold TR; omega))
  have co : CO σ σ1 := fun q k a b c d e f g _ => by rw [hq.1 q k a b c d f, ou q k e]
  have ag : AG σ σ1 := fun q k a => by rw [hq.1 q k (by omega) (by omega) (by omega) (by omega) (by omega), ou q k (by omega)]; exact kp_o σ h.1.2.1 q k (by omega) (by omega) (by omega)
  have e80 := ag.a80
  have hR0 := r_pr (s := kp σ) (v := v) (i := i) (c := c) k0 k1 (by omega)
  have hcell : ∀ q k, 11 ≤ q → q ≤ 20 → σ1 q k = up (kp σ) (TR 0 v) i c q k := fun q k a b => hq.1 q k (by omega) (by omega) (by omega) (by omega) (by omega)
  have hR := hR0.of hcell
  have hG := g_pr (σ := σ1) (v := v) (i := i) (c := c) (e80 0) (e80 1) (by omega) (by omega)
  have b4 : B4 (σ 80 0) (σ 80 1) (fun w => kp σ (TI 0) w) (fun w j => if w = v ∧ j = i then c else kp σ (TR 0 w) j) := ⟨hm, hn, bI, fun w j a b e f => ite_bd (fun _ => hc) (fun _ => bC w j a b e f)⟩
  have hL : LI (prM σ1 v i c) := by
    refine h.ch co hq.2 (fun q k a _ => p_pr a) (hR.tok b4) (MT.pr (by rw [ag.f (by omega)]; exact h.2.1.1) hc (by omega) (by omega)) (hR.teq hG ⟨rfl, hm.2⟩ ⟨rfl, hn.2⟩ (fun w a b => ?_) (fun w j a b e f => ?_))
    · show kp σ (TI 0) w = σ1 80 (2 + w)
      rw [e80]; exact eI' w a b
    · show (if w = v ∧ j = i then c else kp σ (TR 0 w) j) = (if w = v ∧ j = i then c else σ1 80 (9 + 7 * w + j))
      rw [e80, eC' w j a b e f]
  refine ⟨ag, hL, ?_⟩
  have hcell2 : ∀ q k, 11 ≤ q → q ≤ 20 → prM σ1 v i c q k = up (kp σ) (TR 0 v) i c q k := fun q k a b => by rw [p_pr (by omega), chg_o σ1 (by omega) (by omega)]; exact hcell q k a b
  rw [← e_tot hL.e, AW_c hcell2, RW_c (hR0.tok b4) hcell2 _ _ _ (by omega)]
theorem s_cost {σ σ1 : St} {x1 x2 x3 z1 : Int} (h : LI σ) (h1 : z1 = (if (0 ≤ x1 ∧ x1 < σ (TB 0) 0) ∧ (0 ≤ x2 ∧ x2 < σ (TB 0) 1) ∧ 0 ≤ x3 ∧ x3 ≤ 9999 then 100000 + (RW (up (kp σ) (TR 0 x1) x2 x3) (AW (up (kp σ) (TR 0 x1) x2 x3)) 0 0 - RW σ (AW σ) 0 0) else -1) ∧ QQ (if (0 ≤ x1 ∧ x1 < σ (TB 0) 0) ∧ (0 ≤ x2 ∧ x2 < σ (TB 0) 1) ∧ 0 ≤ x3 ∧ x3 ≤ 9999 then up (kp σ) (TR 0 x1) x2 x3 else σ) σ1) : AG σ σ1 ∧ ∀ z2 σ2, (z2 = (if (0 ≤ x1 ∧ x1 < σ1 80 0) ∧ (0 ≤ x2 ∧ x2 < σ1 80 1) ∧ 0 ≤ x3 ∧ x3 ≤ 9999 then totM (prM σ1 x1 x2 x3) - totM σ1 + 100000 else -1) ∧ F83 (if (0 ≤ x1 ∧ x1 < σ1 80 0) ∧ (0 ≤ x2 ∧ x2 < σ1 80 1) ∧ 0 ≤ x3 ∧ x3 ≤ 9999 then prM σ1 x1 x2 x3 else σ1) σ2) → z1 = z2 ∧ LI σ2 := by
  obtain ⟨hz, hq⟩ := h1
  obtain ⟨-, ⟨t0, t1⟩, ⟨hm, hn⟩, -⟩ := h.k
  rw [t0, t1] at hz hq
  by_cases hc : (0 ≤ x1 ∧ x1 < σ 80 0) ∧ (0 ≤ x2 ∧ x2 < σ 80 1) ∧ 0 ≤ x3 ∧ x3 ≤ 9999
  · rw [if_pos hc] at hz hq
    obtain ⟨ag, hL, hE⟩ := h.pr hc.1 hc.2.1 (by omega) hq
    refine ⟨ag, fun z2 σ2 h2 => ?_⟩
    obtain ⟨h2a, h2b⟩ := h2
    rw [ag.a80, ag.a80, if_pos hc] at h2a h2b
    refine ⟨?_, hL.m h2b.qm⟩
    rw [hz, h2a, hE, e_tot h.e, ag.tot]
    omega
  · rw [if_neg hc] at hz hq
    have hL := h.q hq
    refine ⟨hq.ag, fun z2 σ2 h2 => ?_⟩
    obtain ⟨h2a, h2b⟩ := h2
    rw [hq.ag.a80, hq.ag.a80, if_neg hc] at h2a h2b
    exact ⟨by rw [hz, h2a], hL.m h2b.qm⟩
theorem s_bar {σ σ1 : St} {x1 x2 z1 : Int} (h : LI σ) (h1 : z1 = (if (0 ≤ x1 ∧ x1 < σ (TB 0) 0) ∧ (0 ≤ x2 ∧ x2 < σ (TB 0) 1) then (if isB σ 0 x1 x2 = 1 then -2 else RW (up (kp σ) (TR 0 x1) x2 (-1)) (AW (up (kp σ) (TR 0 x1) x2 (-1))) 0 0 - RW σ (AW σ) 0 0) else -1) ∧ QQ (if (0 ≤ x1 ∧ x1 < σ (TB 0) 0) ∧ (0 ≤ x2 ∧ x2 < σ (TB 0) 1) ∧ isB σ 0 x1 x2 ≠ 1 then up (kp σ) (TR 0 x1) x2 (-1) else σ) σ1) : AG σ σ1 ∧ ∀ z2 σ2, (z2 = (if (0 ≤ x1 ∧ x1 < σ1 80 0) ∧ (0 ≤ x2 ∧ x2 < σ1 80 1) then (if cM σ1 x1 x2 < 0 then -2 else totM (prM σ1 x1 x2 (-1)) - totM σ1) else -1) ∧ F83 (if ((0 ≤ x1 ∧ x1 < σ1 80 0) ∧ (0 ≤ x2 ∧ x2 < σ1 80 1)) ∧ ¬ cM σ1 x1 x2 < 0 then prM σ1 x1 x2 (-1) else σ1) σ2) → z1 = z2 ∧ LI σ2 := by
  obtain ⟨hz, hq⟩ := h1
  obtain ⟨-, ⟨t0, t1⟩, ⟨hm, hn⟩, -⟩ := h.k
  rw [t0, t1] at hz hq
  by_cases hc : (0 ≤ x1 ∧ x1 < σ 80 0) ∧ (0 ≤ x2 ∧ x2 < σ 80 1)
  · have hb := h.e.b hc.1 hc.2
    rw [if_pos hc] at hz
    by_cases hn : cM σ x1 x2 < 0
    · rw [if_pos (by omega)] at hz
      rw [if_neg (by omega)] at hq
      refine ⟨hq.ag, fun z2 σ2 h2 => ?_⟩
      obtain ⟨h2a, h2b⟩ := h2
      rw [hq.ag.cM, hq.ag.a80, hq.ag.a80] at h2a h2b
      rw [if_pos hc, if_pos hn] at h2a
      rw [if_neg (fun e => e.2 hn)] at h2b
      exact ⟨by rw [hz, h2a], (h.q hq).m h2b.qm⟩
    · rw [if_neg (by omega)] at hz
      rw [if_pos (by omega)] at hq
      obtain ⟨ag, hL, hE⟩ := h.pr hc.1 hc.2 (by omega) hq
      refine ⟨ag, fun z2 σ2 h2 => ?_⟩
      obtain ⟨h2a, h2b⟩ := h2
      rw [ag.cM, ag.a80, ag.a80] at h2a h2b
      rw [if_pos hc, if_neg hn] at h2a
      rw [if_pos ⟨hc, hn⟩] at h2b
      refine ⟨?_, hL.m h2b.qm⟩
      rw [hz, h2a, hE, e_tot h.e, ag.tot]
  · rw [if_neg hc] at hz
    rw [if_neg (fun e => hc ⟨e.1, e.2.1⟩)] at hq
    refine ⟨hq.ag, fun z2 σ2 h2 => ?_⟩
    obtain ⟨h2a, h2b⟩ := h2
    rw [hq.ag.a80, hq.ag.a80] at h2a h2b
    rw [if_neg hc] at h2a
    rw [if_neg (fun e => hc e.1)] at h2b
    exact ⟨by rw [hz, h2a], (h.q hq).m h2b.qm⟩
