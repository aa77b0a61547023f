/-! THE LAW: undo, texts, read -/
theorem s_undo {σ σ1 : St} {z1 : Int} (h : LI σ) (h1 : z1 = (if σ 1 0 = 0 then -2 else σ 1 0 - 1) ∧ σ1 = (if σ 1 0 = 0 then σ else gB σ)) : AG σ σ1 ∧ ∀ z2 σ2, (z2 = (if σ1 79 2 = 0 then -2 else σ1 79 2 - 1) ∧ σ2 = (if σ1 79 2 = 0 then σ1 else unM σ1)) → z1 = z2 ∧ LI σ2 := by
  obtain ⟨hz, hσ⟩ := h1
  have h' := h
  obtain ⟨⟨c1, c2, c3⟩, ⟨m1, m2, m3, m4, m5⟩, r1, r2, r3, r4, r5⟩ := h'
  by_cases hc : σ 1 0 = 0
  · rw [if_pos hc] at hz hσ
    rw [hσ]
    refine ⟨AG.rf, fun z2 σ2 h2 => ?_⟩
    obtain ⟨h2a, h2b⟩ := h2
    rw [if_pos (by omega)] at h2a h2b
    exact ⟨by rw [hz, h2a], by rw [h2b]; exact h⟩
  · rw [if_neg hc] at hz hσ
    obtain ⟨p, hp⟩ : ∃ p, p = σ 1 0 - 1 := ⟨_, rfl⟩
    have g1 := c2.1
    have g2 := c2.2.1 p (by omega) (by omega)
    have eg : σ1 = cpT (up σ 1 0 p) 0 (σ 2 p) := by rw [hσ, hp]; rfl
    obtain ⟨b0, b1, b2, b3⟩ := cpT_b (σ := up σ 1 0 p) (t := 0) (u := σ 2 p)
    have o1 : ∀ q k, ¬ (11 ≤ q ∧ q ≤ 20) → ¬ (q = 1 ∧ k = 0) → σ1 q k = σ q k := fun q k a b => by
      rw [eg, b3 q k (by unfold TB; omega), up_o b]
    have o2 : σ1 1 0 = p := by rw [eg, b3 1 0 (by unfold TB; omega), up_e]
    have ag : AG σ σ1 := fun q k a => o1 q k (by omega) (by omega)
    have u0 : ∀ q k, 11 ≤ q → up σ 1 0 p q k = σ q k := fun q k a => up_o (by omega)
    have d0 : ∀ k, k = 0 ∨ k = 1 → σ1 (TB 0) k = σ (TB (σ 2 p)) k := fun k hk => by rw [eg, b0 k hk, u0 _ _ (by unfold TB; omega)]
    have d1 : ∀ k, 0 ≤ k → k < 7 → σ1 (TI 0) k = σ (TI (σ 2 p)) k := fun k a b => by rw [eg, b1 k a b, u0 _ _ (by unfold TI; omega)]
    have d2 : ∀ r k, 0 ≤ r → r < 7 → 0 ≤ k → k < 7 → σ1 (TR 0 r) k = σ (TR (σ 2 p) r) k := fun r k a b c d => by rw [eg, b2 r k a b c d, u0 _ _ (by unfold TR; omega)]
    refine ⟨ag, fun z2 σ2 h2 => ?_⟩
    obtain ⟨h2a, h2b⟩ := h2
    have a2 : σ1 79 2 = σ 79 2 := ag _ _ (by omega)
    rw [if_neg (by omega)] at h2a h2b
    refine ⟨by rw [hz, h2a]; omega, ?_⟩
    have o3 : ∀ q k, q ≠ 80 → ¬ (q = 79 ∧ k = 2) → σ2 q k = σ1 q k := fun q k a b => by
      rw [h2b]; unfold unM unA; rw [if_neg (by omega), up_o b]
    have o4 : σ2 79 2 = p := by rw [h2b]; unfold unM unA; rw [if_neg (by omega), up_e]; omega
    have o5 : ∀ k, 0 ≤ k → k < 58 → σ2 80 k = σ 81 (58 * p + k) := fun k a b => by
      rw [h2b]; unfold unM unA; rw [if_pos ⟨rfl, a, b⟩, up_o (by omega), ag _ _ (by omega), show σ1 79 2 - 1 = p by omega]
    have o6 : ∀ q k, ¬ (11 ≤ q ∧ q ≤ 20) → ¬ (q = 1 ∧ k = 0) → q ≠ 80 → ¬ (q = 79 ∧ k = 2) → σ2 q k = σ q k := fun q k a b c d => by rw [o3 q k c d, o1 q k a b]
    have hMp := m4 p (by omega) (by omega)
    have hM2 : MT (σ2 80) := hMp.cg o5
    have hT1 : TOK σ1 0 := by
      obtain ⟨q1, q2, q3, q4⟩ := c1 (σ 2 p) (by omega) (by omega)
      exact ⟨by rw [d0 0 (Or.inl rfl)]; exact q1, by rw [d0 1 (Or.inr rfl)]; exact q2, fun w a b => by rw [d1 w a b]; exact q3 w a b, fun w j a b c d => by rw [d2 w j a b c d]; exact q4 w j a b c d⟩
    have hE1 : TEQ σ1 0 (fun k => σ 81 (58 * p + k)) := by
      obtain ⟨q1, q2, q3, q4⟩ := r3 p (by omega) (by omega)
      have x0 := hMp.1
      have x1 := hMp.2.1
      exact ⟨by rw [d0 0 (Or.inl rfl)]; exact q1, by rw [d0 1 (Or.inr rfl)]; exact q2, fun w a b => by rw [d1 w a (by omega)]; exact q3 w a b, fun w j a b c d => by rw [d2 w j a (by omega) c (by omega)]; exact q4 w j a b c d⟩
    refine ⟨⟨fun t a b => ?_, ?_, ?_⟩, ⟨hM2, ?_, by rw [o4]; omega, fun i a b => ?_, ?_⟩, ?_, ?_, ?_, ?_, ?_⟩
    · by_cases ht : t = 0
      · rw [ht]; exact hT1.keep (fun q k x y => by unfold TB at x y; exact o3 q k (by omega) (by omega))
      · exact (c1 t a b).keep (fun q k x y => by unfold TB at x y; exact o6 q k (by omega) (by omega) (by omega) (by omega))
    · refine ⟨by rw [o3 1 0 (by omega) (by omega), o2]; omega, fun i a b => by rw [o6 2 i (by omega) (by omega) (by omega) (by omega)]; exact c2.2.1 i a b, fun i j a b c => by rw [o6 2 i (by omega) (by omega) (by omega) (by omega), o6 2 j (by omega) (by omega) (by omega) (by omega)]; exact c2.2.2 i j a b c⟩
    · exact c3.of (o6 _ _ (by omega) (by omega) (by omega) (by omega)) (fun k => o6 _ _ (by omega) (by omega) (by omega) (by omega))
    · exact ⟨(o6 _ _ (by omega) (by omega) (by omega) (by omega)).trans m2.1, (o6 _ _ (by omega) (by omega) (by omega) (by omega)).trans m2.2.1, (o6 _ _ (by omega) (by omega) (by omega) (by omega)).trans m2.2.2⟩
    · exact (m4 i a b).cg (fun k _ _ => o6 _ _ (by omega) (by omega) (by omega) (by omega))
    · exact m5.of (o6 _ _ (by omega) (by omega) (by omega) (by omega)) (fun k => o6 _ _ (by omega) (by omega) (by omega) (by omega))
    · exact (hE1.cg hMp o5).of hM2.1.2 (fun k => rfl) (fun q k x y => by unfold TB at x y; exact o3 q k (by omega) (by omega))
    · rw [o3 1 0 (by omega) (by omega), o2, o4]
    · intro i a b
      rw [o3 1 0 (by omega) (by omega), o2] at b
      have g3 := c2.2.1 i a (by omega)
      rw [o6 2 i (by omega) (by omega) (by omega) (by omega)]
      exact (r3 i a (by omega)).of (m4 i a (by omega)).1.2 (fun k => o6 _ _ (by omega) (by omega) (by omega) (by omega)) (fun q k x y => by unfold TB at x y; exact o6 q k (by omega) (by omega) (by omega) (by omega))
    · rw [o6 8 0 (by omega) (by omega) (by omega) (by omega), o6 79 4 (by omega) (by omega) (by omega) (by omega)]; exact r4
    · rw [show σ2 9 = σ 9 from funext fun k => o6 _ _ (by omega) (by omega) (by omega) (by omega), show σ2 82 = σ 82 from funext fun k => o6 _ _ (by omega) (by omega) (by omega) (by omega)]; exact r5
theorem LI.tx {σ σ2 : St} (h : LI σ) (hv : ∀ q k, ¬ (q = 8 ∧ k = 0) → q ≠ 9 → ¬ (q = 79 ∧ k = 4) → q ≠ 82 → σ2 q k = σ q k) (hl : 0 ≤ σ2 8 0 ∧ σ2 8 0 ≤ 80) (h9 : ∀ k, 0 ≤ k → k < 80 → 0 ≤ σ2 9 k ∧ σ2 9 k < 65536) (e4 : σ2 8 0 = σ2 79 4) (e9 : σ2 9 = σ2 82) : LI σ2 := by
  obtain ⟨⟨c1, c2, c3⟩, ⟨m1, m2, m3, m4, m5⟩, r1, r2, r3, r4, r5⟩ := h
  have e : ∀ q k, q ≠ 8 → q ≠ 9 → ¬ (q = 79 ∧ k = 4) → q ≠ 82 → σ2 q k = σ q k := fun q k a b c d => hv q k (by omega) b c d
  have e80 : σ2 80 = σ 80 := funext fun k => e _ _ (by omega) (by omega) (by omega) (by omega)
  refine ⟨⟨fun t a b => (c1 t a b).keep (fun q k x y => by unfold TB at x y; exact e q k (by omega) (by omega) (by omega) (by omega)), ?_, hl, h9⟩, ⟨by rw [e80]; exact m1, ?_, ?_, fun i a b => (m4 i a b).cg (fun k _ _ => e _ _ (by omega) (by omega) (by omega) (by omega)), by rw [← e4]; exact hl, by rw [← e9]; exact h9⟩, ?_, ?_, ?_, e4, e9⟩
  · exact ⟨by rw [e 1 0 (by omega) (by omega) (by omega) (by omega)]; exact c2.1, fun i a b => by rw [e 2 i (by omega) (by omega) (by omega) (by omega)]; exact c2.2.1 i a b, fun i j a b c => by rw [e 2 i (by omega) (by omega) (by omega) (by omega), e 2 j (by omega) (by omega) (by omega) (by omega)]; exact c2.2.2 i j a b c⟩
  · exact ⟨(e _ _ (by omega) (by omega) (by omega) (by omega)).trans m2.1, (e _ _ (by omega) (by omega) (by omega) (by omega)).trans m2.2.1, (e _ _ (by omega) (by omega) (by omega) (by omega)).trans m2.2.2⟩
  · rw [e 79 2 (by omega) (by omega) (by omega) (by omega)]; exact m3
  · exact r1.of m1.1.2 (fun k => e _ _ (by omega) (by omega) (by omega) (by omega)) (fun q k x y => by unfold TB at x y; exact e q k (by omega) (by omega) (by omega) (by omega))
  · rw [e 1 0 (by omega) (by omega) (by omega) (by omega), e 79 2 (by omega) (by omega) (by omega) (by omega)]; exact r2
  · intro i a b
    rw [e 1 0 (by omega) (by omega) (by omega) (by omega)] at b
    have g3 := c2.2.1 i a (by omega)
    rw [e 2 i (by omega) (by omega) (by omega) (by omega)]
    exact (r3 i a b).of (m4 i a (by omega)).1.2 (fun k => e _ _ (by omega) (by omega) (by omega) (by omega)) (fun q k x y => by unfold TB at x y; exact e q k (by omega) (by omega) (by omega) (by omega))
theorem s_type {σ σ1 : St} {x1 z1 : Int} (h : LI σ) (h1 : z1 = (if 32 ≤ x1 ∧ x1 ≤ 126 then (if σ 8 0 < 80 then σ 8 0 + 1 else -3) else -1) ∧ σ1 = (if (32 ≤ x1 ∧ x1 ≤ 126) ∧ σ 8 0 < 80 then apT σ x1 else σ)) : AG σ σ1 ∧ ∀ z2 σ2, (z2 = (if 32 ≤ x1 ∧ x1 ≤ 126 then (if σ1 79 4 < 80 then σ1 79 4 + 1 else -3) else -1) ∧ σ2 = (if (32 ≤ x1 ∧ x1 ≤ 126) ∧ σ1 79 4 < 80 then tyM σ1 x1 else σ1)) → z1 = z2 ∧ LI σ2 := by
  obtain ⟨hz, hσ⟩ := h1
  have r4 := h.2.2.2.2.2.1
  have r5 := h.2.2.2.2.2.2
  have hl := h.1.2.2.1
  by_cases hc : (32 ≤ x1 ∧ x1 ≤ 126) ∧ σ 8 0 < 80
  · rw [if_pos hc] at hσ
    have hs : σ1 = up (up σ 9 (σ 8 0) x1) 8 0 (σ 8 0 + 1) := hσ
    have ag : AG σ σ1 := fun q k a => by rw [hs, up_o (by omega), up_o (by omega)]
    refine ⟨ag, fun z2 σ2 h2 => ?_⟩
    obtain ⟨h2a, h2b⟩ := h2
    have a4 : σ1 79 4 = σ 8 0 := (ag _ _ (by omega)).trans r4.symm
    rw [a4] at h2a h2b
    rw [if_pos hc] at h2b
    refine ⟨by rw [hz, h2a], ?_⟩
    have hs2 : σ2 = up (up σ1 82 (σ 8 0) x1) 79 4 (σ 8 0 + 1) := by rw [h2b]; unfold tyM; rw [a4]
    have v9 : ∀ k, σ2 9 k = if k = σ 8 0 then x1 else σ 9 k := fun k => by
      rw [hs2, up_o (by omega), up_o (by omega), hs, up_o (by omega)]
      by_cases hk : k = σ 8 0
      · rw [if_pos hk, hk, up_e]
      · rw [if_neg hk, up_o (by omega)]
    refine h.tx (fun q k a b c d => ?_) ?_ (fun k a b => ?_) ?_ (funext fun k => ?_)
    · rw [hs2, up_o c, up_o (by omega), hs, up_o a, up_o (by omega)]
    · rw [hs2, up_o (by omega), up_o (by omega), hs, up_e]; omega
    · rw [v9 k]
      have := h.1.2.2.2 k a b
      by_cases hk : k = σ 8 0
      · rw [if_pos hk]; omega
      · rw [if_neg hk]; exact this
    · rw [hs2, up_e, up_o (by omega), up_o (by omega), hs, up_e]
    · rw [v9 k, hs2, up_o (by omega)]
      by_cases hk : k = σ 8 0
      · rw [if_pos hk, hk, up_e]
      · rw [if_neg hk, up_o (by omega), ag _ _ (by omega), r5]
  · rw [if_neg hc] at hσ
    rw [hσ]
    refine ⟨AG.rf, fun z2 σ2 h2 => ?_⟩
    obtain ⟨h2a, h2b⟩ := h2
    rw [← r4] at h2a h2b
    rw [if_neg hc] at h2b
    exact ⟨by rw [hz, h2a], by rw [h2b]; exact h⟩
theorem s_clearText {σ σ1 : St} {z1 : Int} (h : LI σ) (h1 : z1 = σ 8 0 ∧ σ1 = up σ 8 0 0) : AG σ σ1 ∧ ∀ z2 σ2, (z2 = σ1 79 4 ∧ σ2 = up σ1 79 4 0) → z1 = z2 ∧ LI σ2 := by
  obtain ⟨hz, hs⟩ := h1
  have r4 := h.2.2.2.2.2.1
  have r5 := h.2.2.2.2.2.2
  have ag : AG σ σ1 := fun q k a => by rw [hs, up_o (by omega)]
  refine ⟨ag, fun z2 σ2 h2 => ?_⟩
  obtain ⟨h2a, hs2⟩ := h2
  refine ⟨by rw [hz, h2a, ag _ _ (by omega)]; exact r4, ?_⟩
  refine h.tx (fun q k a b c d => ?_) ?_ (fun k a b => ?_) ?_ (funext fun k => ?_)
  · rw [hs2, up_o c, hs, up_o a]
  · rw [hs2, up_o (by omega), hs, up_e]; omega
  · rw [hs2, up_o (by omega), hs, up_o (by omega)]; exact h.1.2.2.2 k a b
  · rw [hs2, up_e, up_o (by omega), hs, up_e]
  · rw [hs2, up_o (by omega), up_o (by omega), hs, up_o (by omega), up_o (by omega), r5]
theorem r_cp {s : St} : R4 (cpT s 0 5) (s (TB 5) 0) (s (TB 5) 1) (fun w => s (TI 5) w) (fun w j => s (TR 5 w) j) := by
  obtain ⟨b0, b1, b2, -⟩ := cpT_b (σ := s) (t := 0) (u := 5)
  exact ⟨b0 0 (Or.inl rfl), b0 1 (Or.inr rfl), fun w a b => b1 w a b, fun w j a b c d => b2 w j a b c d⟩
theorem s_read {σ σ1 : St} {z1 : Int} (h : LI σ) (h1 : ((rwR (σ 9) (σ 8 0)).2.2.1 ≠ 0 ∧ z1 = -2 ∧ QQ σ σ1) ∨ ((rwR (σ 9) (σ 8 0)).2.2.1 = 0 ∧ ∃ σr : St, QQ σ σr ∧ σr (TB 5) 0 = (rwR (σ 9) (σ 8 0)).1 ∧ 1 ≤ (rwR (σ 9) (σ 8 0)).1 ∧ (rwR (σ 9) (σ 8 0)).1 ≤ 7 ∧ σr (TB 5) 1 = wiS (σ 9) (σ 8 0) ∧ RD (σ 9) (σ 8 0) σr (rwR (σ 9) (σ 8 0)).1 ∧ TOK (cpT (kp σr) 0 5) 0 ∧ z1 = RW (cpT (kp σr) 0 5) (AW (cpT (kp σr) 0 5)) 0 0 ∧ QQ (cpT (kp σr) 0 5) σ1)) :
    AG σ σ1 ∧ ∀ z2 σ2, (((rwR (σ1 82) (σ1 79 4)).2.2.1 ≠ 0 ∧ z2 = -2 ∧ QM σ1 σ2) ∨ ((rwR (σ1 82) (σ1 79 4)).2.2.1 = 0 ∧ ∃ σm : St, QM σ1 σm ∧ σm 79 13 = (rwR (σ1 82) (σ1 79 4)).1 ∧ (1 ≤ (rwR (σ1 82) (σ1 79 4)).1 ∧ (rwR (σ1 82) (σ1 79 4)).1 ≤ 7) ∧ σm 79 14 = wiS (σ1 82) (σ1 79 4) ∧ RDM (σ1 82) (σ1 79 4) σm (rwR (σ1 82) (σ1 79 4)).1 ∧ MT (rdF σm 80) ∧ z2 = totM (rdF σm) ∧ F83 (rdF σm) σ2)) → z1 = z2 ∧ LI σ2 := by
  have r4 := h.2.2.2.2.2.1
  have r5 := h.2.2.2.2.2.2
  have hl := h.1.2.2.1
  rcases h1 with ⟨f0, hz, hq⟩ | ⟨f0, σr, hq, x0, x1, x2, x3, x4, x5, hz, hq2⟩
  · have ag := hq.ag
    refine ⟨ag, fun z2 σ2 h2 => ?_⟩
    rw [ag.f (q := 82) (by omega), ag 79 4 (by omega), ← r4, ← r5] at h2
    rcases h2 with ⟨-, g1, g2⟩ | ⟨g0, -⟩
    · exact ⟨by rw [hz, g1], (h.q hq).m g2⟩
    · exact absurd g0 f0
  · have hr := h.q hq
    have agr := hq.ag
    have o3 := (cpT_b (σ := kp σr) (t := 0) (u := 5)).2.2.2
    have ag1 : AG σr σ1 := fun q k a => by rw [hq2.1 q k (by omega) (by omega) (by omega) (by omega) (by omega), o3 q k (by unfold TB; omega)]; exact kp_o σr hr.1.2.1 q k (by omega) (by omega) (by omega)
    have ag : AG σ σ1 := fun q k a => (ag1 q k a).trans (agr q k a)
    refine ⟨ag, fun z2 σ2 h2 => ?_⟩
    rw [ag.f (q := 82) (by omega), ag 79 4 (by omega), ← r4, ← r5] at h2
    rcases h2 with ⟨g0, -⟩ | ⟨-, σm, g1, y0, y1, y3, y4, y5, g2, g3⟩
    · exact absurd f0 g0
    · have hwb := wiS_b (T := σ 9) (len := σ 8 0) (by omega)
      -- the class's table, the reference's
      have hcell : ∀ q k, 11 ≤ q → q ≤ 20 → σm q k = cpT (kp σr) 0 5 q k := fun q k a b => by
        rw [g1 q k (by omega) (by omega) (by omega) (by omega) (by omega) (by omega)]
        exact hq2.1 q k (by omega) (by omega) (by omega) (by omega) (by omega)
      have hR := (r_cp (s := kp σr)).of hcell
      have k5 : ∀ q k, 61 ≤ q → q ≤ 78 → kp σr q k = σr q k := fun q k a b => kp_o σr hr.1.2.1 q k (by omega) (by omega) (by omega)
      have co : CO σr σm := fun q k a b c d e f g i => by
        rw [g1 q k (by omega) (by omega) (by omega) (by omega) (by omega) i, hq2.1 q k a b c d f, o3 q k (by unfold TB; omega)]
      have h5m : TOK σm 5 := hq2.2.keep (fun q k x y => by unfold TB at x y; exact g1 q k (by omega) (by omega) (by omega) (by omega) (by omega) (by omega))
      have hTm : TOK σm 0 := x5.keep (fun q k x y => by unfold TB at x y; exact hcell q k (by omega) (by omega))
      have m0 := rdF_0 (σ := σm) (by omega)
      have hE : TEQ σm 0 (rdF σm 80) := by
        obtain ⟨q0, q1, q2, q3⟩ := hR
        rw [k5 _ _ (by unfold TB; omega) (by unfold TB; omega)] at q0 q1
        refine ⟨by rw [q0, m0.1, x0, y0], by rw [q1, m0.2, x3, y3], fun w a b => ?_, fun w j a b c d => ?_⟩
        · rw [m0.1] at b
          rw [q2 w a (by omega), rdF_i (by omega) (by omega), if_pos b, y4.2 w a (by omega)]
          show kp σr (TI 5) w = _
          rw [k5 _ _ (by unfold TI; omega) (by unfold TI; omega), x4.2 w a (by omega)]
        · rw [m0.1] at b
          rw [m0.2] at d
          rw [q3 w j a (by omega) c (by omega), rdF_c (by omega) (by omega) (by omega), if_pos b, if_pos d, y4.1 w j a (by omega) c (by omega)]
          show kp σr (TR 5 w) j = _
          rw [k5 _ _ (by unfold TR; omega) (by unfold TR; omega), x4.1 w j a (by omega) c (by omega)]
      have hL : LI (rdF σm) := hr.ch co h5m (fun q k a _ => p_rd a) hTm y5 hE
      have hcell2 : ∀ q k, 11 ≤ q → q ≤ 20 → rdF σm q k = cpT (kp σr) 0 5 q k := fun q k a b => by rw [p_rd (by omega), chg_o σm (by omega) (by omega)]; exact hcell q k a b
      refine ⟨?_, hL.m g3.qm⟩
      rw [hz, g2, ← e_tot hL.e, AW_c hcell2, RW_c x5 hcell2 _ _ _ (by omega)]
