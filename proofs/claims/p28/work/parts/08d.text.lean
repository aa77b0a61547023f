/-! MY CONTRACTS: the text, the history -/
def iA (σ : St) (i c : Int) : Int := if i < σ 8 0 ∧ σ 9 i = c then 1 else 0
def dA (σ : St) (i : Int) : Int := if i < σ 8 0 ∧ 48 ≤ σ 9 i ∧ σ 9 i ≤ 57 then σ 9 i - 48 else -1
theorem iA_01 (σ : St) (i c : Int) : (iA σ i c = 1 ∧ i < σ 8 0 ∧ σ 9 i = c) ∨ (iA σ i c = 0 ∧ (σ 8 0 ≤ i ∨ σ 9 i ≠ c)) := by
  unfold iA
  by_cases h : i < σ 8 0 ∧ σ 9 i = c
  · rw [if_pos h]; exact Or.inl ⟨rfl, h⟩
  · rw [if_neg h]; exact Or.inr ⟨rfl, by omega⟩
theorem dA_09 (σ : St) (i : Int) : (dA σ i = σ 9 i - 48 ∧ i < σ 8 0 ∧ 48 ≤ σ 9 i ∧ σ 9 i ≤ 57) ∨ (dA σ i = -1 ∧ (σ 8 0 ≤ i ∨ σ 9 i < 48 ∨ 57 < σ 9 i)) := by
  unfold dA
  by_cases h : i < σ 8 0 ∧ 48 ≤ σ 9 i ∧ σ 9 i ≤ 57
  · rw [if_pos h]; exact Or.inl ⟨rfl, h⟩
  · rw [if_neg h]; exact Or.inr ⟨rfl, by omega⟩
def apT (σ : St) (c : Int) : St := up (up σ 9 (σ 8 0) c) 8 0 (σ 8 0 + 1)
/-- the history: its size, its states' tables, each of 1 to 4 once -/
def HP (σ : St) : Prop := (0 ≤ σ 1 0 ∧ σ 1 0 ≤ 4) ∧ (∀ i, 0 ≤ i → i < 4 → 1 ≤ σ 2 i ∧ σ 2 i ≤ 4) ∧ ∀ i j, 0 ≤ i → i < j → j < 4 → σ 2 i ≠ σ 2 j
def dOl (σ : St) (j : Int) : St := fun q k => if q = 1 ∧ k = 0 then 3 else if q = 2 ∧ 0 ≤ k ∧ k < j then σ 2 (k + 1) else σ q k
def dOm (σ : St) : St := up (dOl σ 3) 2 3 (σ 2 0)
theorem dOm_at (σ : St) : (dOm σ 1 0 = 3 ∧ dOm σ 2 0 = σ 2 1 ∧ dOm σ 2 1 = σ 2 2 ∧ dOm σ 2 2 = σ 2 3 ∧ dOm σ 2 3 = σ 2 0) ∧ ∀ q k, q ≠ 1 → q ≠ 2 → dOm σ q k = σ q k := by
  refine ⟨⟨?_, ?_, ?_, ?_, ?_⟩, fun q k h1 h2 => ?_⟩
  · simp [dOm, up, dOl]
  · simp [dOm, up, dOl]
  · simp [dOm, up, dOl]
  · simp [dOm, up, dOl]
  · simp [dOm, up]
  · simp [dOm, up, dOl, h1, h2]
theorem dOm_HP {σ : St} (h : HP σ) : HP (dOm σ) := by
  obtain ⟨⟨h1, h2, h3, h4, h5⟩, -⟩ := dOm_at σ
  obtain ⟨-, g2, g3⟩ := h
  have a0 := g2 0 (by omega) (by omega)
  have a1 := g2 1 (by omega) (by omega)
  have a2 := g2 2 (by omega) (by omega)
  have a3 := g2 3 (by omega) (by omega)
  have b01 := g3 0 1 (by omega) (by omega) (by omega)
  have b02 := g3 0 2 (by omega) (by omega) (by omega)
  have b03 := g3 0 3 (by omega) (by omega) (by omega)
  have b12 := g3 1 2 (by omega) (by omega) (by omega)
  have b13 := g3 1 3 (by omega) (by omega) (by omega)
  have b23 := g3 2 3 (by omega) (by omega) (by omega)
  refine ⟨by omega, fun i i1 i2 => ?_, fun i j i1 i2 i3 => ?_⟩
  · rcases (show i = 0 ∨ i = 1 ∨ i = 2 ∨ i = 3 by omega) with rfl | rfl | rfl | rfl <;> omega
  · rcases (show (i = 0 ∧ j = 1) ∨ (i = 0 ∧ j = 2) ∨ (i = 0 ∧ j = 3) ∨ (i = 1 ∧ j = 2) ∨ (i = 1 ∧ j = 3) ∨ (i = 2 ∧ j = 3) by omega) with ⟨rfl, rfl⟩ | ⟨rfl, rfl⟩ | ⟨rfl, rfl⟩ | ⟨rfl, rfl⟩ | ⟨rfl, rfl⟩ | ⟨rfl, rfl⟩ <;> omega
/-- the state that is kept goes where the oldest was, if there are four -/
def kp0 (σ : St) : St := if σ 1 0 = 4 then dOm σ else σ
theorem kp0_HP {σ : St} (h : HP σ) : HP (kp0 σ) ∧ kp0 σ 1 0 ≤ 3 := by
  unfold kp0
  by_cases e : σ 1 0 = 4
  · rw [if_pos e]; exact ⟨dOm_HP h, by rw [(dOm_at σ).1.1]; omega⟩
  · rw [if_neg e]; exact ⟨h, by have := h.1; omega⟩
def kp (σ : St) : St := up (cpT (kp0 σ) (kp0 σ 2 (kp0 σ 1 0)) 0) 1 0 (kp0 σ 1 0 + 1)
def gB (σ : St) : St := cpT (up σ 1 0 (σ 1 0 - 1)) 0 (σ 2 (σ 1 0 - 1))
theorem cpT_1 {σ : St} {t u q k : Int} (ht : 0 ≤ t ∧ t < 6) (hq : q < 11 ∨ 71 ≤ q) : cpT σ t u q k = σ q k := by
  unfold cpT cpL
  simp only [TB, TI, TR]
  repeat' refine ite_l (fun h => ?_) (fun h => ?_)
  all_goals omega
set_option maxHeartbeats 4000000 in
set_option maxRecDepth 100000 in
theorem k_X5_append (E0 : EV) {ad : Int → Nat} {σ : St} {c : Int} (hl : 0 ≤ σ 8 0 ∧ σ 8 0 < 80) (hc : 0 ≤ c ∧ c < 65536) : MGE E0 yX5_append wsX5_append 0 0 ad σ [.ref (ad 8), .int (iI c)] (PW (apT σ c)) := by
  refine MGE.of (cc := cX5_append) (maxL := 2) (ret := none) (own := RX5) [some (.ref (ad 8)), some (.int (iI c))] (by decide +kernel) rfl rfl (Nat.le_of_ble_eq_true rfl) rfl rfl (fun E X hr => ?_)
  have i5 : ∀ w ∈ wsX50, w ∈ wsX5_append := by decide +kernel
  refine g_rg (fun hR0 => ?_)
  refine g_aload0 X dX5_append_0 ?_
  refine gf_5_signs X i5 (by decide +kernel) dX5_append_1 ?_
  refine g_aload0 X dX5_append_4 ?_
  refine gf_5_length X i5 (by decide +kernel) dX5_append_5 ?_
  refine g_iload1 X dX5_append_8 ?_
  refine g_cast X (by omega) (by omega) dX5_append_9 ?_
  refine g_rg (fun hR9 => ?_)
  refine g_aload0 X dX5_append_10 ?_
  refine g_dup X dX5_append_11 rfl ?_
  refine gf_5_length X i5 (by decide +kernel) dX5_append_12 ?_
  have u1 : up σ 9 (σ 8 0) c 8 0 = σ 8 0 := by simp [up]
  refine g_iconst X dX5_append_15 ?_
  refine g_iadd X dX5_append_16 ?_
  refine gp_5_length X i5 (by decide +kernel) (by first | exact hR9 _ _ | exact hR0 _ _ | assumption | (unfold InR; omega)) dX5_append_17 ?_
  refine g_rg (fun hR17 => ?_)
  exact g_vretW X hr (by funext q k; simp [apT, up]) dX5_append_20

set_option maxHeartbeats 4000000 in
set_option maxRecDepth 100000 in
theorem k_X5_isAt (E0 : EV) {ad : Int → Nat} {σ : St} {i c : Int} (hl : 0 ≤ σ 8 0 ∧ σ 8 0 ≤ 80) (hi : 0 ≤ i ∧ i ≤ 80) (hc : 0 ≤ c ∧ c < 65536) : MGE E0 yX5_isAt wsX5_isAt 0 0 ad σ [.ref (ad 8), .int (iI i), .int (iI c)] (PF (iA σ i c) σ) := by
  refine MGE.of (cc := cX5_isAt) (maxL := 3) (ret := (some .boolean)) (own := RX5) [some (.ref (ad 8)), some (.int (iI i)), some (.int (iI c))] (by decide +kernel) rfl rfl (Nat.le_of_ble_eq_true rfl) rfl rfl (fun E X hr => ?_)
  have i5 : ∀ w ∈ wsX50, w ∈ wsX5_isAt := by decide +kernel
  refine g_rg (fun hR0 => ?_)
  refine g_iload1 X dX5_isAt_0 ?_
  refine g_aload0 X dX5_isAt_1 ?_
  refine gf_5_length X i5 (by decide +kernel) dX5_isAt_2 ?_
  refine g_icmp_ge (tgt := 22) X (by first | exact hR0 _ _ | assumption | (unfold InR; omega)) (by first | exact hR0 _ _ | assumption | (unfold InR; omega)) dX5_isAt_5 (by decide) (fun h5 => ?_) (fun h5 => ?_)
  · skip
    refine g_iconst X dX5_isAt_22 ?_
    exact g_zretF X hr (by first | exact Or.inl rfl | exact Or.inr rfl | omega) (by first | exact ⟨by unfold iA; rw [if_pos (by omega)], rfl⟩ | exact ⟨by unfold iA; rw [if_neg (by omega)], rfl⟩ | exact ⟨by unfold dA; rw [if_pos (by omega)], rfl⟩ | exact ⟨by unfold dA; rw [if_neg (by omega)], rfl⟩) dX5_isAt_23
  · skip
    refine g_aload0 X dX5_isAt_8 ?_
    refine gf_5_signs X i5 (by decide +kernel) dX5_isAt_9 ?_
    refine g_iload1 X dX5_isAt_12 ?_
    refine g_cald X (by omega) dX5_isAt_13 ?_
    refine g_iload2 X dX5_isAt_14 ?_
    refine g_icmp_ne (tgt := 22) X (by first | exact hR0 _ _ | assumption | (unfold InR; omega)) (by first | exact hR0 _ _ | assumption | (unfold InR; omega)) dX5_isAt_15 (by decide) (fun h15 => ?_) (fun h15 => ?_)
    · skip
      refine g_iconst X dX5_isAt_22 ?_
      exact g_zretF X hr (by first | exact Or.inl rfl | exact Or.inr rfl | omega) (by first | exact ⟨by unfold iA; rw [if_pos (by omega)], rfl⟩ | exact ⟨by unfold iA; rw [if_neg (by omega)], rfl⟩ | exact ⟨by unfold dA; rw [if_pos (by omega)], rfl⟩ | exact ⟨by unfold dA; rw [if_neg (by omega)], rfl⟩) dX5_isAt_23
    · skip
      refine g_iconst X dX5_isAt_18 ?_
      refine g_goto (tgt := 23) X dX5_isAt_19 (by decide) ?_
      exact g_zretF X hr (by first | exact Or.inl rfl | exact Or.inr rfl | omega) (by first | exact ⟨by unfold iA; rw [if_pos (by omega)], rfl⟩ | exact ⟨by unfold iA; rw [if_neg (by omega)], rfl⟩ | exact ⟨by unfold dA; rw [if_pos (by omega)], rfl⟩ | exact ⟨by unfold dA; rw [if_neg (by omega)], rfl⟩) dX5_isAt_23

set_option maxHeartbeats 4000000 in
set_option maxRecDepth 100000 in
theorem k_X5_digitAt (E0 : EV) {ad : Int → Nat} {σ : St} {i : Int} (hl : 0 ≤ σ 8 0 ∧ σ 8 0 ≤ 80) (hi : 0 ≤ i ∧ i ≤ 80) (hT : ∀ k, 0 ≤ k → k < 80 → 0 ≤ σ 9 k ∧ σ 9 k < 65536) : MGE E0 yX5_digitAt wsX5_digitAt 0 0 ad σ [.ref (ad 8), .int (iI i)] (PF (dA σ i) σ) := by
  refine MGE.of (cc := cX5_digitAt) (maxL := 2) (ret := (some .int)) (own := RX5) [some (.ref (ad 8)), some (.int (iI i))] (by decide +kernel) rfl rfl (Nat.le_of_ble_eq_true rfl) rfl rfl (fun E X hr => ?_)
  have i5 : ∀ w ∈ wsX50, w ∈ wsX5_digitAt := by decide +kernel
  refine g_rg (fun hR0 => ?_)
  refine g_iload1 X dX5_digitAt_0 ?_
  refine g_aload0 X dX5_digitAt_1 ?_
  refine gf_5_length X i5 (by decide +kernel) dX5_digitAt_2 ?_
  refine g_icmp_ge (tgt := 30) X (by first | exact hR0 _ _ | assumption | (unfold InR; omega)) (by first | exact hR0 _ _ | assumption | (unfold InR; omega)) dX5_digitAt_5 (by decide) (fun h5 => ?_) (fun h5 => ?_)
  · skip
    refine g_iconst X dX5_digitAt_30 ?_
    exact g_iretF X hr (by first | exact hR0 _ _ | assumption | (unfold InR; omega)) (by first | exact ⟨by unfold iA; rw [if_pos (by omega)], rfl⟩ | exact ⟨by unfold iA; rw [if_neg (by omega)], rfl⟩ | exact ⟨by unfold dA; rw [if_pos (by omega)], rfl⟩ | exact ⟨by unfold dA; rw [if_neg (by omega)], rfl⟩) dX5_digitAt_31
  · skip
    refine g_aload0 X dX5_digitAt_8 ?_
    refine gf_5_signs X i5 (by decide +kernel) dX5_digitAt_9 ?_
    refine g_iload1 X dX5_digitAt_12 ?_
    refine g_cald X (by omega) dX5_digitAt_13 ?_
    refine g_bipush X dX5_digitAt_14 (by decide +kernel) ?_
    refine g_icmp_lt (tgt := 30) X (by first | exact hR0 _ _ | assumption | (unfold InR; omega)) (by first | exact hR0 _ _ | assumption | (unfold InR; omega)) dX5_digitAt_16 (by decide) (fun h16 => ?_) (fun h16 => ?_)
    · skip
      skip
      refine g_iconst X dX5_digitAt_30 ?_
      exact g_iretF X hr (by first | exact hR0 _ _ | assumption | (unfold InR; omega)) (by first | exact ⟨by unfold iA; rw [if_pos (by omega)], rfl⟩ | exact ⟨by unfold iA; rw [if_neg (by omega)], rfl⟩ | exact ⟨by unfold dA; rw [if_pos (by omega)], rfl⟩ | exact ⟨by unfold dA; rw [if_neg (by omega)], rfl⟩) dX5_digitAt_31
    · skip
      refine g_aload0 X dX5_digitAt_19 ?_
      refine gf_5_signs X i5 (by decide +kernel) dX5_digitAt_20 ?_
      refine g_iload1 X dX5_digitAt_23 ?_
      refine g_cald X (by omega) dX5_digitAt_24 ?_
      refine g_bipush X dX5_digitAt_25 (by decide +kernel) ?_
      refine g_icmp_le (tgt := 32) X (by first | exact hR0 _ _ | assumption | (unfold InR; omega)) (by first | exact hR0 _ _ | assumption | (unfold InR; omega)) dX5_digitAt_27 (by decide) (fun h27 => ?_) (fun h27 => ?_)
      · skip
        have hT9 := hT i (by omega) (by omega)
        refine g_aload0 X dX5_digitAt_32 ?_
        refine gf_5_signs X i5 (by decide +kernel) dX5_digitAt_33 ?_
        refine g_iload1 X dX5_digitAt_36 ?_
        refine g_cald X (by omega) dX5_digitAt_37 ?_
        refine g_bipush X dX5_digitAt_38 (by decide +kernel) ?_
        refine g_isub X dX5_digitAt_40 ?_
        exact g_iretF X hr (by first | exact hR0 _ _ | assumption | (unfold InR; omega)) (by first | exact ⟨by unfold iA; rw [if_pos (by omega)], rfl⟩ | exact ⟨by unfold iA; rw [if_neg (by omega)], rfl⟩ | exact ⟨by unfold dA; rw [if_pos (by omega)], rfl⟩ | exact ⟨by unfold dA; rw [if_neg (by omega)], rfl⟩) dX5_digitAt_41
      · skip
        refine g_iconst X dX5_digitAt_30 ?_
        exact g_iretF X hr (by first | exact hR0 _ _ | assumption | (unfold InR; omega)) (by first | exact ⟨by unfold iA; rw [if_pos (by omega)], rfl⟩ | exact ⟨by unfold iA; rw [if_neg (by omega)], rfl⟩ | exact ⟨by unfold dA; rw [if_pos (by omega)], rfl⟩ | exact ⟨by unfold dA; rw [if_neg (by omega)], rfl⟩) dX5_digitAt_31

set_option maxHeartbeats 4000000 in
set_option maxRecDepth 100000 in
theorem k_X0_dropOldest (E0 : EV) {ad : Int → Nat} {σ : St} (hHP : HP σ) (h4 : σ 1 0 = 4) : MGE E0 yX0_dropOldest wsX0_dropOldest 0 0 ad σ [.ref (ad 1)] (PW (dOm σ)) := by
  refine MGE.of (cc := cX0_dropOldest) (maxL := 3) (ret := none) (own := RX0) [some (.ref (ad 1)), none, none] (by decide +kernel) rfl rfl (Nat.le_of_ble_eq_true rfl) rfl rfl (fun E X hr => ?_)
  have i0 : ∀ w ∈ wsX00, w ∈ wsX0_dropOldest := by decide +kernel
  refine g_rg (fun hR0 => ?_)
  refine g_aload0 X dX0_dropOldest_0 ?_
  have h20 := hHP.2.1 0 (by omega) (by omega)
  refine gf_0_states X i0 (by decide +kernel) dX0_dropOldest_1 ?_
  refine g_iconst X dX0_dropOldest_4 ?_
  refine g_aald_2 X (by omega) dX0_dropOldest_5 ?_
  refine g_astore1 X dX0_dropOldest_6 (by decide) (by first | exact Or.inl rfl | exact Or.inr ⟨_, rfl, rfl⟩) ?_
  refine g_aload0 X dX0_dropOldest_7 ?_
  refine g_dup X dX0_dropOldest_8 rfl ?_
  refine gf_0_size X i0 (by decide +kernel) dX0_dropOldest_9 ?_
  refine g_iconst X dX0_dropOldest_12 ?_
  refine g_isub X dX0_dropOldest_13 ?_
  refine gp_0_size X i0 (by decide +kernel) (by first | exact hR0 _ _ | assumption | (unfold InR; omega)) dX0_dropOldest_14 ?_
  refine g_rg (fun hR14 => ?_)
  refine g_iconst X dX0_dropOldest_17 ?_
  refine g_istore2 X dX0_dropOldest_18 (by decide) (by first | exact Or.inl rfl | exact Or.inr ⟨_, rfl, rfl⟩) ?_
  have L19 : ∀ (n19 : Nat) (j : Int) (σ1 : St), (3 - j).toNat < n19 → (0 ≤ j ∧ j ≤ 3) → (σ1 = dOl σ j) → WG E ad 3 σ1 19 [some (.ref (ad 1)), some (.ref (ad (TB (σ 2 0)))), some (.int (iI j))] [] := by
    intro n19
    induction n19 with
    | zero => intro j σ1 hn; exact absurd hn (Nat.not_lt_zero _)
    | succ n19 ih19 =>
      intro j σ1 hn19 hj hs
      refine g_rg (fun hRL19 => ?_)
      have e0 : σ1 1 0 = 3 := by rw [hs]; simp [dOl]
      have e1 : ∀ k, j ≤ k → σ1 2 k = σ 2 k := fun k hk => by rw [hs]; unfold dOl; rw [if_neg (by omega), if_neg (by omega)]
      refine g_iload2 X dX0_dropOldest_19 ?_
      refine g_aload0 X dX0_dropOldest_20 ?_
      refine gf_0_size X i0 (by decide +kernel) dX0_dropOldest_21 ?_
      refine g_icmp_ge (tgt := 47) X (by first | exact hRL19 _ _ | exact hR14 _ _ | exact hR0 _ _ | assumption | (unfold InR; omega)) (by first | exact hRL19 _ _ | exact hR14 _ _ | exact hR0 _ _ | assumption | (unfold InR; omega)) dX0_dropOldest_24 (by decide) (fun h24 => ?_) (fun h24 => ?_)
      · skip
        refine g_aload0 X dX0_dropOldest_47 ?_
        refine gf_0_states X i0 (by decide +kernel) dX0_dropOldest_48 ?_
        refine g_aload0 X dX0_dropOldest_51 ?_
        refine gf_0_size X i0 (by decide +kernel) dX0_dropOldest_52 ?_
        refine g_aload1 X dX0_dropOldest_55 ?_
        refine g_aast_2 X (by omega) (by omega) dX0_dropOldest_56 ?_
        refine g_rg (fun hR56 => ?_)
        exact g_vretW X hr (by rw [e0, hs, show j = 3 by omega]; rfl) dX0_dropOldest_57
      · skip
        refine g_aload0 X dX0_dropOldest_27 ?_
        refine gf_0_states X i0 (by decide +kernel) dX0_dropOldest_28 ?_
        refine g_iload2 X dX0_dropOldest_31 ?_
        refine g_aload0 X dX0_dropOldest_32 ?_
        refine gf_0_states X i0 (by decide +kernel) dX0_dropOldest_33 ?_
        refine g_iload2 X dX0_dropOldest_36 ?_
        refine g_iconst X dX0_dropOldest_37 ?_
        refine g_iadd X dX0_dropOldest_38 ?_
        refine g_aald_2 X (by omega) dX0_dropOldest_39 ?_
        have h2j := hHP.2.1 (j + 1) (by omega) (by omega)
        have e2 := e1 (j + 1) (by omega)
        refine g_aast_2 X (by omega) (by omega) dX0_dropOldest_40 ?_
        refine g_rg (fun hR40 => ?_)
        refine g_iinc2 X dX0_dropOldest_41 (by decide) (by first | exact Or.inl rfl | exact Or.inr ⟨_, rfl, rfl⟩) ?_
        refine g_goto (tgt := 19) X dX0_dropOldest_44 (by decide) ?_
        refine ih19 _ _ (by omega) ?_ ?_
        · omega
        · rw [hs]
          funext q k
          simp only [up, dOl]
          repeat' first | refine ite_l (fun h => ?_) (fun h => ?_) | refine ite_r (fun h => ?_) (fun h => ?_)
          all_goals first | omega | (refine st_c ?_ ?_ <;> omega)
  refine L19 _ _ _ (Nat.lt_succ_self _) ?_ ?_
  · omega
  · funext q k
    simp only [up, dOl]
    repeat' first | refine ite_l (fun h => ?_) (fun h => ?_) | refine ite_r (fun h => ?_) (fun h => ?_)
    all_goals first | omega | (refine st_c ?_ ?_ <;> omega)

set_option maxHeartbeats 4000000 in
set_option maxRecDepth 100000 in
theorem k_X0_keep (E0 : EV) {ad : Int → Nat} {σ : St} (hHP : HP σ) : MGE E0 yX0_keep wsX0_keep 1 23 ad σ [.ref (ad 1), .ref (ad (TB 0))] (PW (kp σ)) := by
  refine MGE.of (cc := cX0_keep) (maxL := 2) (ret := none) (own := RX0) [some (.ref (ad 1)), some (.ref (ad (TB 0)))] (by decide +kernel) rfl rfl (Nat.le_of_ble_eq_true rfl) rfl rfl (fun E X hr => ?_)
  have i0 : ∀ w ∈ wsX00, w ∈ wsX0_keep := by decide +kernel
  refine g_rg (fun hR0 => ?_)
  have J12 : ∀ σ1 : St, σ1 = kp0 σ → WG E ad 2 σ1 12 [some (.ref (ad 1)), some (.ref (ad (TB 0)))] [] := by
    intro σ1 hs
    have hk := kp0_HP hHP
    rw [← hs] at hk
    obtain ⟨⟨k1, k2, -⟩, k4⟩ := hk
    have k5 := k2 (σ1 1 0) (by omega) (by omega)
    refine g_rg (fun hR1 => ?_)
    refine g_aload0 X dX0_keep_12 ?_
    refine gf_0_states X i0 (by decide +kernel) dX0_keep_13 ?_
    refine g_aload0 X dX0_keep_16 ?_
    refine gf_0_size X i0 (by decide +kernel) dX0_keep_17 ?_
    refine g_aald_2 X (by omega) dX0_keep_20 ?_
    refine g_aload1 X dX0_keep_21 ?_
    refine g_W1 X (k_X4_copyFrom E (by omega) (by omega)) gX0_keep_X4_copyFrom rfl (by decide +kernel) (by decide) (ob_TB (by omega)) (Nat.le_of_ble_eq_true rfl) dX0_keep_22 ?_
    refine g_rg (fun hR22 => ?_)
    have e5 : cpT σ1 (σ1 2 (σ1 1 0)) 0 1 0 = σ1 1 0 := cpT_1 (by omega) (by omega)
    refine g_aload0 X dX0_keep_25 ?_
    refine g_dup X dX0_keep_26 rfl ?_
    refine gf_0_size X i0 (by decide +kernel) dX0_keep_27 ?_
    refine g_iconst X dX0_keep_30 ?_
    refine g_iadd X dX0_keep_31 ?_
    refine gp_0_size X i0 (by decide +kernel) (by first | exact hR22 _ _ | exact hR1 _ _ | assumption | (unfold InR; omega)) dX0_keep_32 ?_
    refine g_rg (fun hR32 => ?_)
    skip
    exact g_vretW X hr (by rw [hs] at e5 ⊢; rw [e5]; rfl) dX0_keep_35
  refine g_aload0 X dX0_keep_0 ?_
  refine gf_0_size X i0 (by decide +kernel) dX0_keep_1 ?_
  refine g_iconst X dX0_keep_4 ?_
  refine g_icmp_ne (tgt := 12) X (by first | exact hR0 _ _ | assumption | (unfold InR; omega)) (by first | exact hR0 _ _ | assumption | (unfold InR; omega)) dX0_keep_5 (by decide) (fun h5 => ?_) (fun h5 => ?_)
  · skip
    exact J12 _ (by first | (unfold kp0; rw [if_pos (by omega)]) | (unfold kp0; rw [if_neg (by omega)]))
  · skip
    refine g_aload0 X dX0_keep_8 ?_
    refine g_W0 X (k_X0_dropOldest E hHP (by omega)) gX0_keep_X0_dropOldest rfl (by decide +kernel) (by decide) ob_1 (Nat.le_of_ble_eq_true rfl) dX0_keep_9 ?_
    refine g_rg (fun hR9 => ?_)
    exact J12 _ (by first | (unfold kp0; rw [if_pos (by omega)]) | (unfold kp0; rw [if_neg (by omega)]))
