/-! MY CONTRACTS: the reference's times, undo, text, plans -/
theorem tmM_o {σ : St} {w f q k : Int} (h81 : q ≠ 81) (h79 : ¬ (q = 79 ∧ k = 2)) (h : ¬ (q = 80 ∧ (k = 2 + w ∨ (9 + 7 * w ≤ k ∧ k < 9 + 7 * w + σ 80 1)))) : tmM σ w f q k = σ q k := by
  unfold tmM tmA
  rw [if_neg (by omega), up_o (by omega), chg_o σ h81 h79]
theorem tmM_d {σ : St} {w f : Int} (hw : 0 ≤ w) : tmM σ w f 80 (2 + w) = dM σ w * f := by
  unfold tmM tmA
  rw [if_neg (by omega), up_e]
theorem tmM_c {σ : St} {w f t : Int} (hw : 0 ≤ w) (ht : 0 ≤ t ∧ t < σ 80 1) : tmM σ w f 80 (9 + 7 * w + t) = if 0 < cM σ w t then cM σ w t * f else cM σ w t := by
  unfold tmM tmA cM
  rw [if_pos (by omega), up_o (by omega), chg_80]
theorem MT.tm {σ : St} (hM : MT (σ 80)) {w f : Int} (hw : 0 ≤ w ∧ w < 7) (hf : 0 ≤ f) (hg : gOM σ w (σ 80 1) * f ≤ 9999) : MT (tmM σ w f 80) := by
  have hu := gOM_u hM hw
  have h := hM
  obtain ⟨h0, h1, h2, h3⟩ := h
  have e : ∀ k, ¬ (k = 2 + w ∨ (9 + 7 * w ≤ k ∧ k < 9 + 7 * w + σ 80 1)) → tmM σ w f 80 k = σ 80 k := fun k hk => tmM_o (by omega) (by omega) (by omega)
  refine ⟨by rw [e 0 (by omega)]; exact h0, by rw [e 1 (by omega)]; exact h1, fun k a b => ?_, fun v u a b c1 d => ?_⟩
  · by_cases hk : k = w
    · rw [hk, tmM_d hw.1]
      exact mul_b (h2 w hw.1 hw.2).1 hu.2.1 hf hg
    · rw [e _ (by omega)]; exact h2 k a b
  · by_cases hk : v = w ∧ u < σ 80 1
    · rw [hk.1, tmM_c hw.1 (by omega)]
      by_cases hc : 0 < cM σ w u
      · rw [if_pos hc]
        have := mul_b (by omega) (hu.2.2 u (by omega) hk.2) hf hg
        omega
      · rw [if_neg hc]; exact h3 w u hw.1 hw.2 c1 d
    · rw [e _ (by omega)]; exact h3 v u a b c1 d
theorem max_mul {a c f : Int} (ha : 0 ≤ a) (hf : 0 ≤ f) (hc : -1 ≤ c) : max (a * f) (if 0 < c then c * f else c) = max a c * f := by
  by_cases h : 0 < c
  · rw [if_pos h]
    by_cases h2 : a ≤ c
    · have := Int.mul_le_mul_of_nonneg_right h2 hf
      rw [Int.max_eq_right this, Int.max_eq_right h2]
    · have := Int.mul_le_mul_of_nonneg_right (show c ≤ a by omega) hf
      rw [Int.max_eq_left this, Int.max_eq_left (show c ≤ a by omega)]
  · rw [if_neg h]
    have := Int.mul_nonneg ha hf
    rw [Int.max_eq_left (show c ≤ a by omega), Int.max_eq_left (by omega)]
theorem gOM_tm {σ : St} (hM : MT (σ 80)) {w f : Int} (hw : 0 ≤ w ∧ w < 7) (hf : 0 ≤ f) : gOM (tmM σ w f) w (σ 80 1) = gOM σ w (σ 80 1) * f := by
  have hn := hM.2.1
  have key : ∀ i : Nat, (i : Int) ≤ σ 80 1 → gOM (tmM σ w f) w i = gOM σ w i * f := by
    intro i
    induction i with
    | zero => intro _; show dM (tmM σ w f) w = dM σ w * f; exact tmM_d hw.1
    | succ i ih =>
      intro hi
      have hd := (gOM_b hM hw i (by omega)).1.1
      have hd2 := (hM.2.2.1 w hw.1 hw.2).1
      have hd3 : dM σ w = σ 80 (2 + w) := rfl
      have hc := (hM.2.2.2 w i hw.1 hw.2 (by omega) (by omega)).1
      have e : ((i + 1 : Nat) : Int) = (i : Int) + 1 := by omega
      rw [e, gOM_s (by omega), gOM_s (by omega), ih (by omega)]
      exact (congrArg (max (gOM σ w i * f)) (tmM_c hw.1 (by omega))).trans (max_mul (by omega) hf hc)
  have h := key (σ 80 1).toNat (by omega)
  rw [Int.toNat_of_nonneg hn.1] at h
  exact h
def tyM (σ : St) (x : Int) : St := up (up σ 82 (σ 79 4) x) 79 4 (σ 79 4 + 1)
def F84 (σ σ' : St) : Prop := ∀ q k, q ≠ 83 → q ≠ 84 → σ' q k = σ q k
theorem F83.f84 {σ σ' : St} (h : F83 σ σ') : F84 σ σ' := fun q k a _ => h q k a
theorem F84.rf {σ : St} : F84 σ σ := fun _ _ _ _ => rfl
theorem F84.tr {σ σ' σ'' : St} (h1 : F84 σ σ') (h2 : F84 σ' σ'') : F84 σ σ'' := fun q k h g => (h2 q k h g).trans (h1 q k h g)
theorem F84.mt {σ σ' : St} (h : F84 σ σ') (hM : MT (σ 80)) : MT (σ' 80) := by
  rw [show σ' 80 = σ 80 from funext fun k => h _ _ (by omega) (by omega)]; exact hM
theorem F84.n4 {σ σ' : St} (h : F84 σ σ') (hN : N4 σ) : N4 σ' := ⟨(h _ _ (by omega) (by omega)).trans hN.1, (h _ _ (by omega) (by omega)).trans hN.2.1, (h _ _ (by omega) (by omega)).trans hN.2.2⟩
theorem F84.lf {σ σ' : St} (h : F84 σ σ') (wk tk : Int) : lfV σ' wk tk = lfV σ wk tk := lfV_c (fun k => h _ _ (by omega) (by omega)) (h _ _ (by omega) (by omega)) (h _ _ (by omega) (by omega)) (h _ _ (by omega) (by omega)) wk tk
theorem F84.tot {σ σ' : St} (h : F84 σ σ') : totM σ' = totM σ := totM_c (fun k => h _ _ (by omega) (by omega)) (h _ _ (by omega) (by omega)) (h _ _ (by omega) (by omega)) (h _ _ (by omega) (by omega))
theorem woV_c {σ σ' : St} (h80 : ∀ k, σ' 80 k = σ 80 k) (h6 : σ' 79 6 = σ 79 6) (w t : Int) : woV σ' w t = woV σ w t := by
  unfold woV
  refine totM_c (fun k => ?_) ?_ ?_ ?_
  · rw [up_o (by omega), up_o (by omega), up_o (by omega), up_o (by omega), h80]
  · rw [up_o (by omega), up_o (by omega), up_o (by omega), up_o (by omega), h6]
  · rw [up_o (by omega), up_e, up_o (by omega), up_e]
  · rw [up_e, up_e]
theorem woV_b {σ : St} (hM : MT (σ 80)) (w t : Int) : 0 ≤ woV σ w t ∧ woV σ w t ≤ 1000000 :=
  totM_b (by rw [up_f (by omega), up_f (by omega)]; exact hM)
theorem fsP_p {P : Int → Bool} {n : Int} : ∀ k : Nat, (k : Int) ≤ n → (fsP P n k = -1 ∧ ∀ j, n - k ≤ j → j < n → P j = false) ∨ (n - k ≤ fsP P n k ∧ fsP P n k < n ∧ P (fsP P n k) = true ∧ ∀ j, n - k ≤ j → j < fsP P n k → P j = false) := by
  intro k
  induction k with
  | zero => intro _; exact Or.inl ⟨rfl, fun j a b => by omega⟩
  | succ k ih =>
    intro hk
    have h0 : (n - (n - ((k : Int) + 1))).toNat = k + 1 := by omega
    have h1 : (n - (n - ((k : Int) + 1) + 1)).toNat = k := by omega
    have hs := fsP_s (P := P) (n := n) (i := n - ((k : Int) + 1)) (by omega)
    rw [h0, h1] at hs
    have ek : n - ((k + 1 : Nat) : Int) = n - ((k : Int) + 1) := by omega
    rw [hs, ek]
    by_cases hp : P (n - ((k : Int) + 1)) = true
    · rw [if_pos hp]
      exact Or.inr ⟨by omega, by omega, hp, fun j a b => by omega⟩
    · rw [if_neg hp]
      have hp2 : P (n - ((k : Int) + 1)) = false := by simpa using hp
      rcases ih (by omega) with ⟨a, b⟩ | ⟨a, b, c, d⟩
      · refine Or.inl ⟨a, fun j e f => ?_⟩
        by_cases hj : j = n - ((k : Int) + 1)
        · rw [hj]; exact hp2
        · exact b j (by omega) f
      · refine Or.inr ⟨by omega, b, c, fun j e f => ?_⟩
        by_cases hj : j = n - ((k : Int) + 1)
        · rw [hj]; exact hp2
        · exact d j (by omega) f
def n4 (x : Int) : Int := if x = -1 then -4 else x
def plP (σ : St) (w : Int) (s : Int × Int) : Int → Bool := fun t => decide (bt s.2 t = 1 ∧ 0 ≤ cM σ w t ∧ cM σ w t + lfV σ (p2 (σ 80 0) - p2 (w + 1)) (s.2 - p2 t) = s.1)
def plF (σ : St) (w : Int) (s : Int × Int) : Int := fsP (plP σ w s) (σ 80 1) (σ 80 1).toNat
/-- what is left, and the tasks left, before the worker i of the first plan -/
def plT (σ : St) : Nat → Int × Int
  | 0 => (totM σ, KMM σ)
  | i + 1 => ((plT σ i).1 - (if plF σ i (plT σ i) = -1 then dM σ i else cM σ i (plF σ i (plT σ i))), (plT σ i).2 - (if plF σ i (plT σ i) = -1 then 0 else p2 (plF σ i (plT σ i))))
theorem plT_1 {σ : St} {i : Nat} : (plT σ (i + 1)).1 = (plT σ i).1 - (if plF σ i (plT σ i) = -1 then dM σ i else cM σ i (plF σ i (plT σ i))) := rfl
theorem plT_2 {σ : St} {i : Nat} : (plT σ (i + 1)).2 = (plT σ i).2 - (if plF σ i (plT σ i) = -1 then 0 else p2 (plF σ i (plT σ i))) := rfl
def plM (σ : St) (w : Int) : Int := plF σ w (plT σ w.toNat)
theorem plF_r {σ : St} (hn : 0 ≤ σ 80 1) (w : Int) (s : Int × Int) : plF σ w s = -1 ∨ (0 ≤ plF σ w s ∧ plF σ w s < σ 80 1 ∧ bt s.2 (plF σ w s) = 1 ∧ 0 ≤ cM σ w (plF σ w s)) := by
  rcases fsP_p (P := plP σ w s) (n := σ 80 1) (σ 80 1).toNat (by omega) with ⟨a, b⟩ | ⟨a, b, c, d⟩
  · exact Or.inl a
  · have c2 := of_decide_eq_true c
    exact Or.inr ⟨by show 0 ≤ fsP (plP σ w s) (σ 80 1) (σ 80 1).toNat; omega, b, c2.1, c2.2.1⟩
theorem plM_r {σ : St} (hn : 0 ≤ σ 80 1) (w : Int) : plM σ w = -1 ∨ (0 ≤ plM σ w ∧ plM σ w < σ 80 1) := by
  rcases plF_r hn w (plT σ w.toNat) with h | h
  · exact Or.inl h
  · exact Or.inr ⟨h.1, h.2.1⟩
def PLN (σ σ' : St) : Prop := F84 σ σ' ∧ ∀ w, 0 ≤ w → w < σ 80 0 → σ' 84 w = n4 (plM σ w)
set_option maxHeartbeats 4000000 in
set_option maxRecDepth 100000 in
theorem k_X7_times (E0 : EV) {ad : Int → Nat} {σ : St} {x1 x2 : Int} (hM : MT (σ 80)) (hP : 0 ≤ σ 79 2 ∧ σ 79 2 ≤ 4) (hx1 : InR x1) (hx2 : InR x2) : MGE E0 yX7_times wsX7_times 2 45 ad σ [.ref (ad 79), .int (iI x1), .int (iI x2)] (PF (if (0 ≤ x1 ∧ x1 < σ 80 0) ∧ 0 ≤ x2 ∧ x2 ≤ 2000000000 then (if gOM σ x1 (σ 80 1) * x2 ≤ 9999 then gOM σ x1 (σ 80 1) * x2 else -3) else -1) (if ((0 ≤ x1 ∧ x1 < σ 80 0) ∧ 0 ≤ x2 ∧ x2 ≤ 2000000000) ∧ gOM σ x1 (σ 80 1) * x2 ≤ 9999 then tmM σ x1 x2 else σ)) := by
  refine MGE.of (cc := cX7_times) (maxL := 5) (ret := (some .int)) (own := RX7) [some (.ref (ad 79)), some (.int (iI x1)), some (.int (iI x2)), none, none] (by decide +kernel) rfl rfl (Nat.le_of_ble_eq_true rfl) rfl rfl (fun E X hr => ?_)
  have i7 : ∀ w ∈ wsX70, w ∈ wsX7_times := by decide +kernel
  refine g_rg (fun hR0 => ?_)
  have hm := hM.1
  have hn := hM.2.1
  have hw := mW_01 σ x1
  have hc := inB_01 x2 0 2000000000
  refine g_aload0 X dX7_times_0 ?_
  refine g_iload1 X dX7_times_1 ?_
  refine g_F1 X (k_X7_isWorker E hM hx1) gX7_times_X7_isWorker rfl (by decide +kernel) (by decide) ob_79 (Nat.le_of_ble_eq_true rfl) dX7_times_2 (fun hz2 => ?_)
  refine g_rg (fun hR2 => ?_)
  refine g_if_eq (tgt := 18) X (by first | exact hR2 _ _ | exact hR0 _ _ | assumption | (unfold InR; omega)) dX7_times_5 (by decide) (fun h5 => ?_) (fun h5 => ?_)
  · skip
    refine g_iconst X dX7_times_18 ?_
    exact g_iretF X hr (by first | exact hR2 _ _ | exact hR0 _ _ | assumption | (unfold InR; omega)) ⟨(by repeat (first | rw [if_pos (by omega)] | rw [if_neg (by omega)]); all_goals omega), by first | (rw [if_neg (by omega)]; done)⟩ dX7_times_19
  · skip
    refine g_iload2 X dX7_times_8 ?_
    refine g_iconst X dX7_times_9 ?_
    refine g_ldc X (z := 2000000000) (by decide +kernel) rfl dX7_times_10 ?_
    refine g_SF3 X (k_X7_in E (by first | assumption | (unfold InR; omega)) (by first | assumption | (unfold InR; omega)) (by first | assumption | (unfold InR; omega))) gX7_times_X7_in rfl (by decide +kernel) (by decide) (Nat.le_of_ble_eq_true rfl) dX7_times_12 (fun hz12 => ?_)
    refine g_rg (fun hR12 => ?_)
    refine g_if_ne (tgt := 20) X (by first | exact hR12 _ _ | exact hR2 _ _ | exact hR0 _ _ | assumption | (unfold InR; omega)) dX7_times_15 (by decide) (fun h15 => ?_) (fun h15 => ?_)
    · skip
      have hgb := gOM_u hM (w := x1) (by omega)
      have hp0 : 0 ≤ gOM σ x1 (σ 80 1) * x2 := Int.mul_nonneg hgb.1.1 (by omega)
      have hp1 : gOM σ x1 (σ 80 1) * x2 ≤ 9999 * 2000000000 := Int.le_trans (Int.mul_le_mul_of_nonneg_right hgb.1.2 (by omega)) (Int.mul_le_mul_of_nonneg_left (by omega) (by omega))
      have hInL : InL (gOM σ x1 (σ 80 1) * x2) := ⟨by omega, by omega⟩
      refine g_aload0 X dX7_times_20 ?_
      refine g_iload1 X dX7_times_21 ?_
      refine g_F1 X (k_X7_greatestOf E hM (by omega)) gX7_times_X7_greatestOf rfl (by decide +kernel) (by decide) ob_79 (Nat.le_of_ble_eq_true rfl) dX7_times_22 (fun hz22 => ?_)
      refine g_rg (fun hR22 => ?_)
      refine g_i2l X dX7_times_25 ?_
      refine g_iload2 X dX7_times_26 ?_
      refine g_i2l X dX7_times_27 ?_
      refine g_lmul X dX7_times_28 ?_
      rw [iI_l (by unfold InR; omega), iI_l hx2, lL_mul]
      refine g_ldc2 X (v := 9999) (by decide +kernel) dX7_times_29 ?_
      rw [show (9999 : Int64) = lL 9999 from rfl]
      refine g_lcmp X dX7_times_32 ?_
      rw [lL_cmp (b := 9999) hInL ⟨by omega, by omega⟩]
      have hc3 : (c3 (gOM σ x1 (σ 80 1) * x2) 9999 = -1 ∧ gOM σ x1 (σ 80 1) * x2 < 9999) ∨ (c3 (gOM σ x1 (σ 80 1) * x2) 9999 = 0 ∧ gOM σ x1 (σ 80 1) * x2 = 9999) ∨ (c3 (gOM σ x1 (σ 80 1) * x2) 9999 = 1 ∧ 9999 < gOM σ x1 (σ 80 1) * x2) := by
        unfold c3
        by_cases h1 : gOM σ x1 (σ 80 1) * x2 < 9999
        · rw [if_pos h1]; omega
        · rw [if_neg h1]
          by_cases h2 : gOM σ x1 (σ 80 1) * x2 = 9999
          · rw [if_pos h2]; omega
          · rw [if_neg h2]; omega
      refine g_if_le (tgt := 39) X (by first | exact hR22 _ _ | exact hR12 _ _ | exact hR2 _ _ | exact hR0 _ _ | assumption | (unfold InR; omega)) dX7_times_33 (by decide) (fun h33 => ?_) (fun h33 => ?_)
      · skip
        have hgx : gOM σ x1 (σ 80 1) * x2 ≤ 9999 := by omega
        have hdm : dM σ x1 = σ 80 (2 + x1) := rfl
        have hd1 := hM.2.2.1 x1 (by omega) (by omega)
        have hdx := mul_b (a := dM σ x1) (by omega) hgb.2.1 (by omega) hgx
        refine g_aload0 X dX7_times_39 ?_
        refine g_W0 X (k_X7_changes E hP) gX7_times_X7_changes rfl (by decide +kernel) (by decide) ob_79 (Nat.le_of_ble_eq_true rfl) dX7_times_40 ?_
        refine g_rg (fun hR40 => ?_)
        have c80 := chg_80 σ
        have c8 : ∀ k, chg σ 80 k = σ 80 k := fun k => by rw [c80]
        refine g_aload0 X dX7_times_43 ?_
        refine gf_7_s X i7 (by decide +kernel) dX7_times_44 ?_
        refine g_iconst X dX7_times_47 ?_
        refine g_iload1 X dX7_times_48 ?_
        refine g_iadd X dX7_times_49 ?_
        refine g_aload0 X dX7_times_50 ?_
        refine gf_7_s X i7 (by decide +kernel) dX7_times_51 ?_
        refine g_iconst X dX7_times_54 ?_
        refine g_iload1 X dX7_times_55 ?_
        refine g_iadd X dX7_times_56 ?_
        refine g_iald X (ia_80 (by omega)) dX7_times_57 ?_
        have J75 : ∀ v : Int, v = dM σ x1 * x2 → WG E ad 5 (chg σ) 75 [some (.ref (ad 79)), some (.int (iI x1)), some (.int (iI x2)), none, none] [.int (iI v), .int (iI (2 + x1)), .ref (ad 80)] := by
          intro v hv
          subst hv
          refine g_iast X (ia_80 (by omega)) (by first | exact hR40 _ _ | exact hR22 _ _ | exact hR12 _ _ | exact hR2 _ _ | exact hR0 _ _ | assumption | (unfold InR; omega)) dX7_times_75 ?_
          refine g_rg (fun hR75 => ?_)
          obtain ⟨σb, hb⟩ : ∃ s : St, s = up (chg σ) 80 (2 + x1) (dM σ x1 * x2) := ⟨_, rfl⟩
          rw [← hb]
          have b1 : ∀ k, k ≠ 2 + x1 → σb 80 k = σ 80 k := fun k h => by rw [hb, up_o (by omega), c8]
          refine g_iconst X dX7_times_76 ?_
          refine g_istore3 X dX7_times_77 (by decide) (by first | exact Or.inl rfl | exact Or.inr ⟨_, rfl, rfl⟩) ?_
          have L78 : ∀ (n78 : Nat) (t : Int) (σ1 : St) (u : Option Value), (σ 80 1 - t).toNat < n78 → (0 ≤ t ∧ t ≤ σ 80 1) → (σ1 = tmA σb x1 x2 t) → WG E ad 5 σ1 78 [some (.ref (ad 79)), some (.int (iI x1)), some (.int (iI x2)), some (.int (iI t)), u] [] := by
            intro n78
            induction n78 with
            | zero => intro t σ1 u hn; exact absurd hn (Nat.not_lt_zero _)
            | succ n78 ih78 =>
              intro t σ1 u hn78 ht hσ
              refine g_rg (fun hRL78 => ?_)
              subst hσ
              have e1 : tmA σb x1 x2 t 80 1 = σ 80 1 := by unfold tmA; rw [if_neg (by omega), b1 _ (by omega)]
              refine g_iload3 X dX7_times_78 ?_
              refine g_aload0 X dX7_times_79 ?_
              refine gf_7_s X i7 (by decide +kernel) dX7_times_80 ?_
              refine g_iconst X dX7_times_83 ?_
              refine g_iald X (ia_80 (by omega)) dX7_times_84 ?_
              refine g_icmp_ge (tgt := 130) X (by first | exact hRL78 _ _ | exact hR75 _ _ | exact hR40 _ _ | exact hR22 _ _ | exact hR12 _ _ | exact hR2 _ _ | exact hR0 _ _ | assumption | (unfold InR; omega)) (by first | exact hRL78 _ _ | exact hR75 _ _ | exact hR40 _ _ | exact hR22 _ _ | exact hR12 _ _ | exact hR2 _ _ | exact hR0 _ _ | assumption | (unfold InR; omega)) dX7_times_85 (by decide) (fun h85 => ?_) (fun h85 => ?_)
              · skip
                have et : tmA σb x1 x2 t = tmM σ x1 x2 := by rw [show t = σ 80 1 by omega, hb]; rfl
                rw [et]
                have hMt := hM.tm (w := x1) (f := x2) (by omega) (by omega) hgx
                have hn1 : tmM σ x1 x2 80 1 = σ 80 1 := tmM_o (by omega) (by omega) (by omega)
                refine g_aload0 X dX7_times_130 ?_
                refine g_iload1 X dX7_times_131 ?_
                refine g_F1 X (k_X7_greatestOf E hMt (by omega)) gX7_times_X7_greatestOf rfl (by decide +kernel) (by decide) ob_79 (Nat.le_of_ble_eq_true rfl) dX7_times_132 (fun hz132 => ?_)
                refine g_rg (fun hR132 => ?_)
                exact g_iretF X hr (by first | exact hR132 _ _ | exact hRL78 _ _ | exact hR75 _ _ | exact hR40 _ _ | exact hR22 _ _ | exact hR12 _ _ | exact hR2 _ _ | exact hR0 _ _ | assumption | (unfold InR; omega)) ⟨by rw [if_pos (by omega), if_pos (by omega), hn1]; exact gOM_tm hM (by omega) (by omega), by rw [if_pos (by omega)]⟩ dX7_times_135
              · skip
                refine g_aload0 X dX7_times_88 ?_
                refine g_iload1 X dX7_times_89 ?_
                refine g_iload3 X dX7_times_90 ?_
                refine g_F2 X (k_X7_of E (by omega) (by omega)) gX7_times_X7_of rfl (by decide +kernel) (by decide) ob_79 (Nat.le_of_ble_eq_true rfl) dX7_times_91 (fun hz91 => ?_)
                refine g_rg (fun hR91 => ?_)
                have ebt : σb 80 (9 + 7 * x1 + t) = σ 80 (9 + 7 * x1 + t) := b1 _ (by omega)
                have ect : cM σ x1 t = σ 80 (9 + 7 * x1 + t) := rfl
                have ec : cM (tmA σb x1 x2 t) x1 t = σ 80 (9 + 7 * x1 + t) := by unfold cM tmA; rw [if_neg (by omega)]; exact ebt
                rw [ec]
                have hcb := hM.2.2.2 x1 t (by omega) (by omega) (by omega) (by omega)
                refine g_istore4 X dX7_times_94 (by decide) (by first | exact Or.inl rfl | exact Or.inr ⟨_, rfl, rfl⟩) ?_
                refine g_aload0 X dX7_times_96 ?_
                refine gf_7_s X i7 (by decide +kernel) dX7_times_97 ?_
                refine g_bipush X dX7_times_100 (by decide +kernel) ?_
                refine g_bipush X dX7_times_102 (by decide +kernel) ?_
                refine g_iload1 X dX7_times_104 ?_
                refine g_imul X dX7_times_105 ?_
                refine g_iadd X dX7_times_106 ?_
                refine g_iload3 X dX7_times_107 ?_
                refine g_iadd X dX7_times_108 ?_
                refine g_iload4 X dX7_times_109 ?_
                have J123 : ∀ v : Int, v = (if 0 < σb 80 (9 + 7 * x1 + t) then σb 80 (9 + 7 * x1 + t) * x2 else σb 80 (9 + 7 * x1 + t)) → WG E ad 5 (tmA σb x1 x2 t) 123 [some (.ref (ad 79)), some (.int (iI x1)), some (.int (iI x2)), some (.int (iI t)), some (.int (iI (σ 80 (9 + 7 * x1 + t))))] [.int (iI v), .int (iI (9 + 7 * x1 + t)), .ref (ad 80)] := by
                  intro v hv
                  have hvI : InR v := by
                    rw [hv]; by_cases h : 0 < σb 80 (9 + 7 * x1 + t)
                    · rw [if_pos h, ebt]; have h9 := hgb.2.2 t (by omega) (by omega); have h8 := mul_b (a := cM σ x1 t) (by omega) h9 (by omega) hgx; rw [ect] at h8; unfold InR; omega
                    · rw [if_neg h, ebt]; exact hR0 _ _
                  refine g_iast X (ia_80 (by omega)) (by first | exact hR91 _ _ | exact hRL78 _ _ | exact hR75 _ _ | exact hR40 _ _ | exact hR22 _ _ | exact hR12 _ _ | exact hR2 _ _ | exact hR0 _ _ | assumption | (unfold InR; omega)) dX7_times_123 ?_
                  refine g_rg (fun hR123 => ?_)
                  refine g_iinc3 X dX7_times_124 (by decide) (by first | exact Or.inl rfl | exact Or.inr ⟨_, rfl, rfl⟩) ?_
                  refine g_goto (tgt := 78) X dX7_times_127 (by decide) ?_
                  refine ih78 _ _ _ (by omega) ?_ ?_
                  · omega
                  · funext q j
                    by_cases hqj : q = 80 ∧ j = 9 + 7 * x1 + t
                    · obtain ⟨rfl, rfl⟩ := hqj
                      rw [up_e]; unfold tmA; rw [if_pos (by omega)]; exact hv
                    · rw [up_o hqj]; unfold tmA
                      repeat' split
                      all_goals first | rfl | omega
                refine g_if_le (tgt := 121) X (by first | exact hR91 _ _ | exact hRL78 _ _ | exact hR75 _ _ | exact hR40 _ _ | exact hR22 _ _ | exact hR12 _ _ | exact hR2 _ _ | exact hR0 _ _ | assumption | (unfold InR; omega)) dX7_times_111 (by decide) (fun h111 => ?_) (fun h111 => ?_)
                · skip
                  refine g_iload4 X dX7_times_121 ?_
                  exact J123 _ (by rw [ebt]; first | (rw [if_pos (by omega)]; done) | (rw [if_neg (by omega)]; done))
                · skip
                  refine g_iload4 X dX7_times_114 ?_
                  refine g_iload2 X dX7_times_116 ?_
                  refine g_imul X dX7_times_117 ?_
                  refine g_goto (tgt := 123) X dX7_times_118 (by decide) ?_
                  exact J123 _ (by rw [ebt]; first | (rw [if_pos (by omega)]; done) | (rw [if_neg (by omega)]; done))
          refine L78 _ _ _ _ (Nat.lt_succ_self _) ?_ ?_
          · omega
          · funext q j
            unfold tmA
            repeat' split
            all_goals first | rfl | omega | exact st_c (by omega) (by omega) | (exfalso; omega)
        refine g_if_ne (tgt := 65) X (by first | exact hR40 _ _ | exact hR22 _ _ | exact hR12 _ _ | exact hR2 _ _ | exact hR0 _ _ | assumption | (unfold InR; omega)) dX7_times_58 (by decide) (fun h58 => ?_) (fun h58 => ?_)
        · skip
          refine g_aload0 X dX7_times_65 ?_
          refine gf_7_s X i7 (by decide +kernel) dX7_times_66 ?_
          refine g_iconst X dX7_times_69 ?_
          refine g_iload1 X dX7_times_70 ?_
          refine g_iadd X dX7_times_71 ?_
          refine g_iald X (ia_80 (by omega)) dX7_times_72 ?_
          refine g_iload2 X dX7_times_73 ?_
          refine g_imul X dX7_times_74 ?_
          first | exact J75 _ hz0.symm | exact J75 _ (by rw [c8]; rfl)
        · skip
          have c2x := c8 (2 + x1)
          have hz0 : dM σ x1 * x2 = 0 := by rw [show dM σ x1 = 0 by omega, Int.zero_mul]
          refine g_iconst X dX7_times_61 ?_
          refine g_goto (tgt := 75) X dX7_times_62 (by decide) ?_
          first | exact J75 _ hz0.symm | exact J75 _ (by rw [c8]; rfl)
      · skip
        refine g_bipush X dX7_times_36 (by decide +kernel) ?_
        exact g_iretF X hr (by first | exact hR22 _ _ | exact hR12 _ _ | exact hR2 _ _ | exact hR0 _ _ | assumption | (unfold InR; omega)) ⟨(by repeat (first | rw [if_pos (by omega)] | rw [if_neg (by omega)]); all_goals omega), by first | (rw [if_neg (by omega)]; done)⟩ dX7_times_38
    · skip
      refine g_iconst X dX7_times_18 ?_
      exact g_iretF X hr (by first | exact hR12 _ _ | exact hR2 _ _ | exact hR0 _ _ | assumption | (unfold InR; omega)) ⟨(by repeat (first | rw [if_pos (by omega)] | rw [if_neg (by omega)]); all_goals omega), by first | (rw [if_neg (by omega)]; done)⟩ dX7_times_19

set_option maxHeartbeats 4000000 in
set_option maxRecDepth 100000 in
theorem k_X7_costOf (E0 : EV) {ad : Int → Nat} {σ : St} {x1 x2 : Int} (hM : MT (σ 80)) (hx1 : InR x1) (hx2 : InR x2) : MGE E0 yX7_costOf wsX7_costOf 1 22 ad σ [.ref (ad 79), .int (iI x1), .int (iI x2)] (PF (if (0 ≤ x1 ∧ x1 < σ 80 0) ∧ (x2 = -1 ∨ (0 ≤ x2 ∧ x2 < σ 80 1)) then (if x2 < 0 then dM σ x1 else if cM σ x1 x2 < 0 then -4 else cM σ x1 x2) else -1) σ) := by
  refine MGE.of (cc := cX7_costOf) (maxL := 3) (ret := (some .int)) (own := RX7) [some (.ref (ad 79)), some (.int (iI x1)), some (.int (iI x2))] (by decide +kernel) rfl rfl (Nat.le_of_ble_eq_true rfl) rfl rfl (fun E X hr => ?_)
  have i7 : ∀ w ∈ wsX70, w ∈ wsX7_costOf := by decide +kernel
  refine g_rg (fun hR0 => ?_)
  have hm := hM.1
  have hn := hM.2.1
  have hw := mW_01 σ x1
  have hk := mK_01 σ x2
  have ecm : cM σ x1 x2 = σ 80 (9 + 7 * x1 + x2) := rfl
  have edm : dM σ x1 = σ 80 (2 + x1) := rfl
  refine g_aload0 X dX7_costOf_0 ?_
  refine g_iload1 X dX7_costOf_1 ?_
  refine g_F1 X (k_X7_isWorker E hM hx1) gX7_costOf_X7_isWorker rfl (by decide +kernel) (by decide) ob_79 (Nat.le_of_ble_eq_true rfl) dX7_costOf_2 (fun hz2 => ?_)
  refine g_rg (fun hR2 => ?_)
  refine g_if_eq (tgt := 21) X (by first | exact hR2 _ _ | exact hR0 _ _ | assumption | (unfold InR; omega)) dX7_costOf_5 (by decide) (fun h5 => ?_) (fun h5 => ?_)
  · skip
    refine g_iconst X dX7_costOf_21 ?_
    exact g_iretF X hr (by first | exact hR2 _ _ | exact hR0 _ _ | assumption | (unfold InR; omega)) ⟨(by repeat (first | rw [if_pos (by omega)] | rw [if_neg (by omega)]); all_goals omega), rfl⟩ dX7_costOf_22
  · skip
    refine g_iload2 X dX7_costOf_8 ?_
    refine g_iconst X dX7_costOf_9 ?_
    refine g_icmp_eq (tgt := 23) X (by first | exact hR2 _ _ | exact hR0 _ _ | assumption | (unfold InR; omega)) (by first | exact hR2 _ _ | exact hR0 _ _ | assumption | (unfold InR; omega)) dX7_costOf_10 (by decide) (fun h10 => ?_) (fun h10 => ?_)
    · skip
      refine g_iload2 X dX7_costOf_23 ?_
      refine g_if_ge (tgt := 38) X (by first | exact hR2 _ _ | exact hR0 _ _ | assumption | (unfold InR; omega)) dX7_costOf_24 (by decide) (fun h24 => ?_) (fun h24 => ?_)
      · skip
        refine g_aload0 X dX7_costOf_38 ?_
        refine g_iload1 X dX7_costOf_39 ?_
        refine g_iload2 X dX7_costOf_40 ?_
        refine g_F2 X (k_X7_of E (by omega) (by omega)) gX7_costOf_X7_of rfl (by decide +kernel) (by decide) ob_79 (Nat.le_of_ble_eq_true rfl) dX7_costOf_41 (fun hz41 => ?_)
        refine g_rg (fun hR41 => ?_)
        refine g_if_ge (tgt := 52) X (by first | exact hR41 _ _ | exact hR2 _ _ | exact hR0 _ _ | assumption | (unfold InR; omega)) dX7_costOf_44 (by decide) (fun h44 => ?_) (fun h44 => ?_)
        · skip
          refine g_aload0 X dX7_costOf_52 ?_
          refine g_iload1 X dX7_costOf_53 ?_
          refine g_iload2 X dX7_costOf_54 ?_
          refine g_F2 X (k_X7_of E (by omega) (by omega)) gX7_costOf_X7_of rfl (by decide +kernel) (by decide) ob_79 (Nat.le_of_ble_eq_true rfl) dX7_costOf_55 (fun hz55 => ?_)
          refine g_rg (fun hR55 => ?_)
          exact g_iretF X hr (by first | exact hR55 _ _ | exact hR41 _ _ | exact hR2 _ _ | exact hR0 _ _ | assumption | (unfold InR; omega)) ⟨(by repeat (first | rw [if_pos (by omega)] | rw [if_neg (by omega)]); all_goals omega), rfl⟩ dX7_costOf_58
        · skip
          refine g_bipush X dX7_costOf_47 (by decide +kernel) ?_
          refine g_goto (tgt := 58) X dX7_costOf_49 (by decide) ?_
          exact g_iretF X hr (by first | exact hR41 _ _ | exact hR2 _ _ | exact hR0 _ _ | assumption | (unfold InR; omega)) ⟨(by repeat (first | rw [if_pos (by omega)] | rw [if_neg (by omega)]); all_goals omega), rfl⟩ dX7_costOf_58
      · skip
        refine g_aload0 X dX7_costOf_27 ?_
        refine gf_7_s X i7 (by decide +kernel) dX7_costOf_28 ?_
        refine g_iconst X dX7_costOf_31 ?_
        refine g_iload1 X dX7_costOf_32 ?_
        refine g_iadd X dX7_costOf_33 ?_
        refine g_iald X (ia_80 (by omega)) dX7_costOf_34 ?_
        refine g_goto (tgt := 58) X dX7_costOf_35 (by decide) ?_
        exact g_iretF X hr (by first | exact hR2 _ _ | exact hR0 _ _ | assumption | (unfold InR; omega)) ⟨(by repeat (first | rw [if_pos (by omega)] | rw [if_neg (by omega)]); all_goals omega), rfl⟩ dX7_costOf_58
    · skip
      refine g_aload0 X dX7_costOf_13 ?_
      refine g_iload2 X dX7_costOf_14 ?_
      refine g_F1 X (k_X7_isTask E hM hx2) gX7_costOf_X7_isTask rfl (by decide +kernel) (by decide) ob_79 (Nat.le_of_ble_eq_true rfl) dX7_costOf_15 (fun hz15 => ?_)
      refine g_rg (fun hR15 => ?_)
      refine g_if_ne (tgt := 23) X (by first | exact hR15 _ _ | exact hR2 _ _ | exact hR0 _ _ | assumption | (unfold InR; omega)) dX7_costOf_18 (by decide) (fun h18 => ?_) (fun h18 => ?_)
      · skip
        refine g_iload2 X dX7_costOf_23 ?_
        refine g_if_ge (tgt := 38) X (by first | exact hR15 _ _ | exact hR2 _ _ | exact hR0 _ _ | assumption | (unfold InR; omega)) dX7_costOf_24 (by decide) (fun h24 => ?_) (fun h24 => ?_)
        · skip
          refine g_aload0 X dX7_costOf_38 ?_
          refine g_iload1 X dX7_costOf_39 ?_
          refine g_iload2 X dX7_costOf_40 ?_
          refine g_F2 X (k_X7_of E (by omega) (by omega)) gX7_costOf_X7_of rfl (by decide +kernel) (by decide) ob_79 (Nat.le_of_ble_eq_true rfl) dX7_costOf_41 (fun hz41 => ?_)
          refine g_rg (fun hR41 => ?_)
          refine g_if_ge (tgt := 52) X (by first | exact hR41 _ _ | exact hR15 _ _ | exact hR2 _ _ | exact hR0 _ _ | assumption | (unfold InR; omega)) dX7_costOf_44 (by decide) (fun h44 => ?_) (fun h44 => ?_)
          · skip
            refine g_aload0 X dX7_costOf_52 ?_
            refine g_iload1 X dX7_costOf_53 ?_
            refine g_iload2 X dX7_costOf_54 ?_
            refine g_F2 X (k_X7_of E (by omega) (by omega)) gX7_costOf_X7_of rfl (by decide +kernel) (by decide) ob_79 (Nat.le_of_ble_eq_true rfl) dX7_costOf_55 (fun hz55 => ?_)
            refine g_rg (fun hR55 => ?_)
            exact g_iretF X hr (by first | exact hR55 _ _ | exact hR41 _ _ | exact hR15 _ _ | exact hR2 _ _ | exact hR0 _ _ | assumption | (unfold InR; omega)) ⟨(by repeat (first | rw [if_pos (by omega)] | rw [if_neg (by omega)]); all_goals omega), rfl⟩ dX7_costOf_58
          · skip
            refine g_bipush X dX7_costOf_47 (by decide +kernel) ?_
            refine g_goto (tgt := 58) X dX7_costOf_49 (by decide) ?_
            exact g_iretF X hr (by first | exact hR41 _ _ | exact hR15 _ _ | exact hR2 _ _ | exact hR0 _ _ | assumption | (unfold InR; omega)) ⟨(by repeat (first | rw [if_pos (by omega)] | rw [if_neg (by omega)]); all_goals omega), rfl⟩ dX7_costOf_58
        · skip
          refine g_aload0 X dX7_costOf_27 ?_
          refine gf_7_s X i7 (by decide +kernel) dX7_costOf_28 ?_
          refine g_iconst X dX7_costOf_31 ?_
          refine g_iload1 X dX7_costOf_32 ?_
          refine g_iadd X dX7_costOf_33 ?_
          refine g_iald X (ia_80 (by omega)) dX7_costOf_34 ?_
          refine g_goto (tgt := 58) X dX7_costOf_35 (by decide) ?_
          exact g_iretF X hr (by first | exact hR15 _ _ | exact hR2 _ _ | exact hR0 _ _ | assumption | (unfold InR; omega)) ⟨(by repeat (first | rw [if_pos (by omega)] | rw [if_neg (by omega)]); all_goals omega), rfl⟩ dX7_costOf_58
      · skip
        refine g_iconst X dX7_costOf_21 ?_
        exact g_iretF X hr (by first | exact hR15 _ _ | exact hR2 _ _ | exact hR0 _ _ | assumption | (unfold InR; omega)) ⟨(by repeat (first | rw [if_pos (by omega)] | rw [if_neg (by omega)]); all_goals omega), rfl⟩ dX7_costOf_22

set_option maxHeartbeats 4000000 in
set_option maxRecDepth 100000 in
theorem k_X7_total (E0 : EV) {ad : Int → Nat} {σ : St} (hM : MT (σ 80)) : MGE E0 yX7_total wsX7_total 4 92 ad σ [.ref (ad 79)] (PI (fun z σ' => z = totM σ ∧ F83 σ σ')) := by
  refine MGE.of (cc := cX7_total) (maxL := 1) (ret := (some .int)) (own := RX7) [some (.ref (ad 79))] (by decide +kernel) rfl rfl (Nat.le_of_ble_eq_true rfl) rfl rfl (fun E X hr => ?_)
  refine g_rg (fun hR0 => ?_)
  refine g_aload0 X dX7_total_0 ?_
  refine g_I0 X (k_X7_leastTotal E hM) gX7_total_X7_leastTotal rfl (by decide +kernel) (by decide) ob_79 (Nat.le_of_ble_eq_true rfl) dX7_total_1 (fun z1 σ1 hz1 hp1 => ?_)
  refine g_rg (fun hR1 => ?_)
  exact g_iret X hr (by first | exact hR1 _ _ | exact hR0 _ _ | assumption | (unfold InR; omega)) ⟨hp1.1, hp1.2⟩ dX7_total_4

set_option maxHeartbeats 4000000 in
set_option maxRecDepth 100000 in
theorem k_X7_undo (E0 : EV) {ad : Int → Nat} {σ : St} (hP : 0 ≤ σ 79 2 ∧ σ 79 2 ≤ 4) : MGE E0 yX7_undo wsX7_undo 0 0 ad σ [.ref (ad 79)] (PF (if σ 79 2 = 0 then -2 else σ 79 2 - 1) (if σ 79 2 = 0 then σ else unM σ)) := by
  refine MGE.of (cc := cX7_undo) (maxL := 2) (ret := (some .int)) (own := RX7) [some (.ref (ad 79)), none] (by decide +kernel) rfl rfl (Nat.le_of_ble_eq_true rfl) rfl rfl (fun E X hr => ?_)
  have i7 : ∀ w ∈ wsX70, w ∈ wsX7_undo := by decide +kernel
  refine g_rg (fun hR0 => ?_)
  refine g_aload0 X dX7_undo_0 ?_
  refine gf_7_pasts X i7 (by decide +kernel) dX7_undo_1 ?_
  refine g_if_ne (tgt := 10) X (by first | exact hR0 _ _ | assumption | (unfold InR; omega)) dX7_undo_4 (by decide) (fun h4 => ?_) (fun h4 => ?_)
  · skip
    refine g_aload0 X dX7_undo_10 ?_
    refine g_dup X dX7_undo_11 rfl ?_
    refine gf_7_pasts X i7 (by decide +kernel) dX7_undo_12 ?_
    refine g_iconst X dX7_undo_15 ?_
    refine g_isub X dX7_undo_16 ?_
    refine gp_7_pasts X i7 (by decide +kernel) (by first | exact hR0 _ _ | assumption | (unfold InR; omega)) dX7_undo_17 ?_
    refine g_rg (fun hR17 => ?_)
    obtain ⟨σb, hb⟩ : ∃ s : St, s = up σ 79 2 (σ 79 2 - 1) := ⟨_, rfl⟩
    rw [← hb]
    have b2 : σb 79 2 = σ 79 2 - 1 := by rw [hb, up_e]
    refine g_iconst X dX7_undo_20 ?_
    refine g_istore1 X dX7_undo_21 (by decide) (by first | exact Or.inl rfl | exact Or.inr ⟨_, rfl, rfl⟩) ?_
    have L22 : ∀ (n22 : Nat) (k : Int) (σ1 : St), (58 - k).toNat < n22 → (0 ≤ k ∧ k ≤ 58) → (σ1 = unA σb (σ 79 2 - 1) k) → WG E ad 2 σ1 22 [some (.ref (ad 79)), some (.int (iI k))] [] := by
      intro n22
      induction n22 with
      | zero => intro k σ1 hn; exact absurd hn (Nat.not_lt_zero _)
      | succ n22 ih22 =>
        intro k σ1 hn22 hk hσ
        refine g_rg (fun hRL22 => ?_)
        subst hσ
        have e2 : unA σb (σ 79 2 - 1) k 79 2 = σ 79 2 - 1 := by unfold unA; rw [if_neg (by omega), b2]
        refine g_iload1 X dX7_undo_22 ?_
        refine g_bipush X dX7_undo_23 (by decide +kernel) ?_
        refine g_icmp_ge (tgt := 54) X (by first | exact hRL22 _ _ | exact hR17 _ _ | exact hR0 _ _ | assumption | (unfold InR; omega)) (by first | exact hRL22 _ _ | exact hR17 _ _ | exact hR0 _ _ | assumption | (unfold InR; omega)) dX7_undo_25 (by decide) (fun h25 => ?_) (fun h25 => ?_)
        · skip
          refine g_aload0 X dX7_undo_54 ?_
          refine gf_7_pasts X i7 (by decide +kernel) dX7_undo_55 ?_
          exact g_iretF X hr (by first | exact hRL22 _ _ | exact hR17 _ _ | exact hR0 _ _ | assumption | (unfold InR; omega)) ⟨by rw [if_neg (by omega), e2], by rw [if_neg (by omega), show k = 58 by omega, hb]; rfl⟩ dX7_undo_58
        · skip
          refine g_aload0 X dX7_undo_28 ?_
          refine gf_7_s X i7 (by decide +kernel) dX7_undo_29 ?_
          refine g_iload1 X dX7_undo_32 ?_
          refine g_aload0 X dX7_undo_33 ?_
          refine gf_7_past X i7 (by decide +kernel) dX7_undo_34 ?_
          refine g_bipush X dX7_undo_37 (by decide +kernel) ?_
          refine g_aload0 X dX7_undo_39 ?_
          refine gf_7_pasts X i7 (by decide +kernel) dX7_undo_40 ?_
          refine g_imul X dX7_undo_43 ?_
          refine g_iload1 X dX7_undo_44 ?_
          refine g_iadd X dX7_undo_45 ?_
          refine g_iald X (ia_81 (by omega)) dX7_undo_46 ?_
          refine g_iast X (ia_80 (by omega)) (by first | exact hRL22 _ _ | exact hR17 _ _ | exact hR0 _ _ | assumption | (unfold InR; omega)) dX7_undo_47 ?_
          refine g_rg (fun hR47 => ?_)
          refine g_iinc1 X dX7_undo_48 (by decide) (by first | exact Or.inl rfl | exact Or.inr ⟨_, rfl, rfl⟩) ?_
          refine g_goto (tgt := 22) X dX7_undo_51 (by decide) ?_
          refine ih22 _ _ (by omega) ?_ ?_
          · omega
          · funext q j
            unfold up unA
            repeat' split
            all_goals first | rfl | omega | exact st_c (by omega) (by omega) | (exfalso; omega)
    refine L22 _ _ _ (Nat.lt_succ_self _) ?_ ?_
    · omega
    · funext q j
      unfold unA
      repeat' split
      all_goals first | rfl | omega | exact st_c (by omega) (by omega) | (exfalso; omega)
  · skip
    refine g_bipush X dX7_undo_7 (by decide +kernel) ?_
    exact g_iretF X hr (by first | exact hR0 _ _ | assumption | (unfold InR; omega)) ⟨(by repeat (first | rw [if_pos (by omega)] | rw [if_neg (by omega)]); all_goals omega), (by repeat (first | rw [if_pos (by omega)] | rw [if_neg (by omega)]); all_goals omega)⟩ dX7_undo_9

set_option maxHeartbeats 4000000 in
set_option maxRecDepth 100000 in
theorem k_X7_type (E0 : EV) {ad : Int → Nat} {σ : St} {x1 : Int} (hT : 0 ≤ σ 79 4 ∧ σ 79 4 ≤ 80) (hx1 : InR x1) : MGE E0 yX7_type wsX7_type 1 22 ad σ [.ref (ad 79), .int (iI x1)] (PF (if 32 ≤ x1 ∧ x1 ≤ 126 then (if σ 79 4 < 80 then σ 79 4 + 1 else -3) else -1) (if (32 ≤ x1 ∧ x1 ≤ 126) ∧ σ 79 4 < 80 then tyM σ x1 else σ)) := by
  refine MGE.of (cc := cX7_type) (maxL := 2) (ret := (some .int)) (own := RX7) [some (.ref (ad 79)), some (.int (iI x1))] (by decide +kernel) rfl rfl (Nat.le_of_ble_eq_true rfl) rfl rfl (fun E X hr => ?_)
  have i7 : ∀ w ∈ wsX70, w ∈ wsX7_type := by decide +kernel
  refine g_rg (fun hR0 => ?_)
  have hc := inB_01 x1 32 126
  refine g_iload1 X dX7_type_0 ?_
  refine g_bipush X dX7_type_1 (by decide +kernel) ?_
  refine g_bipush X dX7_type_3 (by decide +kernel) ?_
  refine g_SF3 X (k_X7_in E (by first | assumption | (unfold InR; omega)) (by first | assumption | (unfold InR; omega)) (by first | assumption | (unfold InR; omega))) gX7_type_X7_in rfl (by decide +kernel) (by decide) (Nat.le_of_ble_eq_true rfl) dX7_type_5 (fun hz5 => ?_)
  refine g_rg (fun hR5 => ?_)
  refine g_if_ne (tgt := 13) X (by first | exact hR5 _ _ | exact hR0 _ _ | assumption | (unfold InR; omega)) dX7_type_8 (by decide) (fun h8 => ?_) (fun h8 => ?_)
  · skip
    refine g_aload0 X dX7_type_13 ?_
    refine gf_7_typed X i7 (by decide +kernel) dX7_type_14 ?_
    refine g_bipush X dX7_type_17 (by decide +kernel) ?_
    refine g_icmp_ne (tgt := 25) X (by first | exact hR5 _ _ | exact hR0 _ _ | assumption | (unfold InR; omega)) (by first | exact hR5 _ _ | exact hR0 _ _ | assumption | (unfold InR; omega)) dX7_type_19 (by decide) (fun h19 => ?_) (fun h19 => ?_)
    · skip
      refine g_aload0 X dX7_type_25 ?_
      refine gf_7_text X i7 (by decide +kernel) dX7_type_26 ?_
      refine g_aload0 X dX7_type_29 ?_
      refine gf_7_typed X i7 (by decide +kernel) dX7_type_30 ?_
      refine g_iload1 X dX7_type_33 ?_
      refine g_iast X (ia_82 (by omega)) (by first | exact hR5 _ _ | exact hR0 _ _ | assumption | (unfold InR; omega)) dX7_type_34 ?_
      refine g_rg (fun hR34 => ?_)
      refine g_aload0 X dX7_type_35 ?_
      refine g_dup X dX7_type_36 rfl ?_
      refine gf_7_typed X i7 (by decide +kernel) dX7_type_37 ?_
      refine g_iconst X dX7_type_40 ?_
      refine g_iadd X dX7_type_41 ?_
      have eo : up σ 82 (σ 79 4) x1 79 4 = σ 79 4 := up_o (by omega)
      rw [eo]
      refine gp_7_typed X i7 (by decide +kernel) (by first | exact hR34 _ _ | exact hR5 _ _ | exact hR0 _ _ | assumption | (unfold InR; omega)) dX7_type_42 ?_
      refine g_rg (fun hR42 => ?_)
      have ez : up (up σ 82 (σ 79 4) x1) 79 4 (σ 79 4 + 1) 79 4 = σ 79 4 + 1 := up_e
      refine g_aload0 X dX7_type_45 ?_
      refine gf_7_typed X i7 (by decide +kernel) dX7_type_46 ?_
      exact g_iretF X hr (by first | exact hR42 _ _ | exact hR34 _ _ | exact hR5 _ _ | exact hR0 _ _ | assumption | (unfold InR; omega)) ⟨(by repeat (first | rw [if_pos (by omega)] | rw [if_neg (by omega)]); all_goals omega), by first | (rw [if_neg (by omega)]; done) | (rw [if_pos (by omega)]; rfl)⟩ dX7_type_49
    · skip
      refine g_bipush X dX7_type_22 (by decide +kernel) ?_
      exact g_iretF X hr (by first | exact hR5 _ _ | exact hR0 _ _ | assumption | (unfold InR; omega)) ⟨(by repeat (first | rw [if_pos (by omega)] | rw [if_neg (by omega)]); all_goals omega), by first | (rw [if_neg (by omega)]; done) | (rw [if_pos (by omega)]; rfl)⟩ dX7_type_24
  · skip
    refine g_iconst X dX7_type_11 ?_
    exact g_iretF X hr (by first | exact hR5 _ _ | exact hR0 _ _ | assumption | (unfold InR; omega)) ⟨(by repeat (first | rw [if_pos (by omega)] | rw [if_neg (by omega)]); all_goals omega), by first | (rw [if_neg (by omega)]; done) | (rw [if_pos (by omega)]; rfl)⟩ dX7_type_12

set_option maxHeartbeats 4000000 in
set_option maxRecDepth 100000 in
theorem k_X7_clearText (E0 : EV) {ad : Int → Nat} {σ : St}  : MGE E0 yX7_clearText wsX7_clearText 0 0 ad σ [.ref (ad 79)] (PF (σ 79 4) (up σ 79 4 0)) := by
  refine MGE.of (cc := cX7_clearText) (maxL := 2) (ret := (some .int)) (own := RX7) [some (.ref (ad 79)), none] (by decide +kernel) rfl rfl (Nat.le_of_ble_eq_true rfl) rfl rfl (fun E X hr => ?_)
  have i7 : ∀ w ∈ wsX70, w ∈ wsX7_clearText := by decide +kernel
  refine g_rg (fun hR0 => ?_)
  refine g_aload0 X dX7_clearText_0 ?_
  refine gf_7_typed X i7 (by decide +kernel) dX7_clearText_1 ?_
  refine g_istore1 X dX7_clearText_4 (by decide) (by first | exact Or.inl rfl | exact Or.inr ⟨_, rfl, rfl⟩) ?_
  refine g_aload0 X dX7_clearText_5 ?_
  refine g_iconst X dX7_clearText_6 ?_
  refine gp_7_typed X i7 (by decide +kernel) (by first | exact hR0 _ _ | assumption | (unfold InR; omega)) dX7_clearText_7 ?_
  refine g_rg (fun hR7 => ?_)
  refine g_iload1 X dX7_clearText_10 ?_
  exact g_iretF X hr (by first | exact hR7 _ _ | exact hR0 _ _ | assumption | (unfold InR; omega)) ⟨rfl, rfl⟩ dX7_clearText_11

theorem p2_1 {k : Int} (h : 0 ≤ k) : p2 (k + 1) = p2 k + p2 k := by
  unfold p2
  rw [show (k + 1).toNat = k.toNat + 1 by omega, Int.pow_succ]
  omega
set_option maxHeartbeats 4000000 in
set_option maxRecDepth 100000 in
theorem k_X7_plans (E0 : EV) {ad : Int → Nat} {σ : St} (hM : MT (σ 80)) (hN : N4 σ) : MGE E0 yX7_plans wsX7_plans 4 92 ad σ [.ref (ad 79)] (PV (fun σ' => PLN σ σ')) := by
  refine MGE.of (cc := cX7_plans) (maxL := 8) (ret := none) (own := RX7) [some (.ref (ad 79)), none, none, none, none, none, none, none] (by decide +kernel) rfl rfl (Nat.le_of_ble_eq_true rfl) rfl rfl (fun E X hr => ?_)
  have i7 : ∀ w ∈ wsX70, w ∈ wsX7_plans := by decide +kernel
  refine g_rg (fun hR0 => ?_)
  have hm := hM.1
  have hn := hM.2.1
  have hpm := p2_n (n := σ 80 0) (by omega)
  have hpn := p2_n (n := σ 80 1) (by omega)
  have hb7 := bt_all (n := σ 80 1) (j := 7) (by omega) (by omega)
  rw [if_neg (by omega)] at hb7
  have htb := totM_b hM
  refine g_aload0 X dX7_plans_0 ?_
  refine g_I0 X (k_X7_leastTotal E hM) gX7_plans_X7_leastTotal rfl (by decide +kernel) (by decide) ob_79 (Nat.le_of_ble_eq_true rfl) dX7_plans_1 (fun z1 σ1 hz1 hp1 => ?_)
  refine g_rg (fun hR1 => ?_)
  have hF0 : F84 σ σ1 := hp1.2.f84
  have hM1 := hF0.mt hM
  have ez1 := hp1.1
  have f80 : ∀ k, σ1 80 k = σ 80 k := fun k => hF0 _ _ (by omega) (by omega)
  rw [ez1]
  refine g_istore1 X dX7_plans_4 (by decide) (by first | exact Or.inl rfl | exact Or.inr ⟨_, rfl, rfl⟩) ?_
  refine g_aload0 X dX7_plans_5 ?_
  refine g_F0 X (k_X7_allWorkers E hM1) gX7_plans_X7_allWorkers rfl (by decide +kernel) (by decide) ob_79 (Nat.le_of_ble_eq_true rfl) dX7_plans_6 (fun hz6 => ?_)
  refine g_rg (fun hR6 => ?_)
  rw [f80]
  refine g_istore2 X dX7_plans_9 (by decide) (by first | exact Or.inl rfl | exact Or.inr ⟨_, rfl, rfl⟩) ?_
  refine g_aload0 X dX7_plans_10 ?_
  refine g_F0 X (k_X7_allTasks E hM1) gX7_plans_X7_allTasks rfl (by decide +kernel) (by decide) ob_79 (Nat.le_of_ble_eq_true rfl) dX7_plans_11 (fun hz11 => ?_)
  refine g_rg (fun hR11 => ?_)
  rw [f80]
  refine g_istore3 X dX7_plans_14 (by decide) (by first | exact Or.inl rfl | exact Or.inr ⟨_, rfl, rfl⟩) ?_
  refine g_iconst X dX7_plans_15 ?_
  refine g_istore4 X dX7_plans_16 (by decide) (by first | exact Or.inl rfl | exact Or.inr ⟨_, rfl, rfl⟩) ?_
  have L18 : ∀ (n18 : Nat) (w lf wk tk : Int) (σ1 : St) (u5 u6 u7 : Option Value), (σ 80 0 - w).toNat < n18 → (0 ≤ w ∧ w ≤ σ 80 0) → (F84 σ σ1) → (lf = (plT σ w.toNat).1) → (tk = (plT σ w.toNat).2) → (-70000 + 9999 * (7 - w) ≤ lf ∧ lf ≤ 1000000 + w) → (0 ≤ tk ∧ tk < 128) → (wk = p2 (σ 80 0) - p2 w) → (∀ j, 0 ≤ j → j < w → σ1 84 j = n4 (plM σ j)) → WG E ad 8 σ1 18 [some (.ref (ad 79)), some (.int (iI lf)), some (.int (iI wk)), some (.int (iI tk)), some (.int (iI w)), u5, u6, u7] [] := by
    intro n18
    induction n18 with
    | zero => intro w lf wk tk σ1 u5 u6 u7 hn; exact absurd hn (Nat.not_lt_zero _)
    | succ n18 ih18 =>
      intro w lf wk tk σ1 u5 u6 u7 hn18 hw hF hlf htk hlb0 htb0 hwk hpc
      refine g_rg (fun hRL18 => ?_)
      have e80 : ∀ k, σ1 80 k = σ 80 k := fun k => hF _ _ (by omega) (by omega)
      have e0 := e80 0
      have e1 := e80 1
      refine g_iload4 X dX7_plans_18 ?_
      refine g_aload0 X dX7_plans_20 ?_
      refine gf_7_s X i7 (by decide +kernel) dX7_plans_21 ?_
      refine g_iconst X dX7_plans_24 ?_
      refine g_iald X (ia_80 (by omega)) dX7_plans_25 ?_
      refine g_icmp_ge (tgt := 176) X (by first | exact hRL18 _ _ | exact hR11 _ _ | exact hR6 _ _ | exact hR1 _ _ | exact hR0 _ _ | assumption | (unfold InR; omega)) (by first | exact hRL18 _ _ | exact hR11 _ _ | exact hR6 _ _ | exact hR1 _ _ | exact hR0 _ _ | assumption | (unfold InR; omega)) dX7_plans_26 (by decide) (fun h26 => ?_) (fun h26 => ?_)
      · skip
        exact g_vret X hr ⟨hF, fun j a b => hpc j a (by omega)⟩ dX7_plans_176
      · skip
        refine g_iload2 X dX7_plans_29 ?_
        refine g_iconst X dX7_plans_30 ?_
        refine g_iload4 X dX7_plans_31 ?_
        refine g_ishl X (b_shl (by omega)) dX7_plans_33 ?_
        refine g_isub X dX7_plans_34 ?_
        refine g_istore2 X dX7_plans_35 (by decide) (by first | exact Or.inl rfl | exact Or.inr ⟨_, rfl, rfl⟩) ?_
        have hwp : wk - p2 w = p2 (σ 80 0) - p2 (w + 1) := by rw [p2_1 hw.1]; omega
        have hpl := p2_lt (k := w) (n := σ 80 0) (by omega) (by omega) (by omega)
        have hp1w := p2_k (k := w) (by omega)
        refine g_bipush X dX7_plans_36 (by decide +kernel) ?_
        refine g_istore5 X dX7_plans_38 (by decide) (by first | exact Or.inl rfl | exact Or.inr ⟨_, rfl, rfl⟩) ?_
        refine g_aload0 X dX7_plans_40 ?_
        refine gf_7_s X i7 (by decide +kernel) dX7_plans_41 ?_
        refine g_iconst X dX7_plans_44 ?_
        refine g_iald X (ia_80 (by omega)) dX7_plans_45 ?_
        refine g_iconst X dX7_plans_46 ?_
        refine g_isub X dX7_plans_47 ?_
        refine g_istore6 X dX7_plans_48 (by decide) (by first | exact Or.inl rfl | exact Or.inr ⟨_, rfl, rfl⟩) ?_
        have L50 : ∀ (n50 : Nat) (t f : Int) (σ2 : St) (u7 : Option Value), (t + 1).toNat < n50 → (-1 ≤ t ∧ t < σ 80 1) → (F84 σ σ2) → (∀ j, 0 ≤ j → j < w → σ2 84 j = n4 (plM σ j)) → (f = n4 (fsP (plP σ w (plT σ w.toNat)) (σ 80 1) (σ 80 1 - (t + 1)).toNat)) → WG E ad 8 σ2 50 [some (.ref (ad 79)), some (.int (iI lf)), some (.int (iI (wk - p2 w))), some (.int (iI tk)), some (.int (iI w)), some (.int (iI f)), some (.int (iI t)), u7] [] := by
          intro n50
          induction n50 with
          | zero => intro t f σ2 u7 hn; exact absurd hn (Nat.not_lt_zero _)
          | succ n50 ih50 =>
            intro t f σ2 u7 hn50 ht hF2 hpc2 hf
            refine g_rg (fun hRL50 => ?_)
            have e2 : ∀ k, σ2 80 k = σ 80 k := fun k => hF2 _ _ (by omega) (by omega)
            refine g_iload6 X dX7_plans_50 ?_
            refine g_if_lt (tgt := 117) X (by first | exact hRL50 _ _ | exact hRL18 _ _ | exact hR11 _ _ | exact hR6 _ _ | exact hR1 _ _ | exact hR0 _ _ | assumption | (unfold InR; omega)) dX7_plans_52 (by decide) (fun h52 => ?_) (fun h52 => ?_)
            · skip
              have hfe : f = n4 (plM σ w) := by rw [hf, show (σ 80 1 - (t + 1)).toNat = (σ 80 1).toNat by omega]; rfl
              have hpr := plF_r (σ := σ) hn.1 w (plT σ w.toNat)
              rw [← htk, show plF σ w (plT σ w.toNat) = plM σ w from rfl] at hpr
              have hfr : (f = -4 ∧ plM σ w = -1) ∨ (0 ≤ f ∧ f < σ 80 1 ∧ f = plM σ w) := by
                rw [hfe]; unfold n4
                rcases hpr with h | h
                · rw [if_pos h]; exact Or.inl ⟨rfl, h⟩
                · rw [if_neg (by omega)]; exact Or.inr ⟨h.1, h.2.1, rfl⟩
              have hfb : 0 ≤ f → bt tk f = 1 := fun h => by
                rcases hpr with h1 | h1
                · omega
                · rw [show f = plM σ w by omega]; exact h1.2.2.1
              refine g_aload0 X dX7_plans_117 ?_
              refine gf_7_plan X i7 (by decide +kernel) dX7_plans_118 ?_
              refine g_iload4 X dX7_plans_121 ?_
              refine g_iload5 X dX7_plans_123 ?_
              refine g_iast X (ia_84 (by omega)) (by first | exact hRL50 _ _ | exact hRL18 _ _ | exact hR11 _ _ | exact hR6 _ _ | exact hR1 _ _ | exact hR0 _ _ | assumption | (unfold InR; omega)) dX7_plans_125 ?_
              refine g_rg (fun hR125 => ?_)
              obtain ⟨σ4, hσ4⟩ : ∃ s : St, s = up σ2 84 w f := ⟨_, rfl⟩
              rw [← hσ4]
              have hF4 : F84 σ σ4 := fun q k a b => by rw [hσ4, up_o (by omega)]; exact hF2 q k a b
              have e84 : ∀ k, σ4 80 k = σ 80 k := fun k => hF4 _ _ (by omega) (by omega)
              have hpc4 : ∀ j, 0 ≤ j → j < w + 1 → σ4 84 j = n4 (plM σ j) := fun j a b => by
                rw [hσ4]
                by_cases hj : j = w
                · rw [hj, up_e, hfe]
                · rw [up_o (by omega)]; exact hpc2 j a (by omega)
              have hwS : (w + 1).toNat = w.toNat + 1 := by omega
              have hwn : ((w.toNat : Nat) : Int) = w := Int.toNat_of_nonneg (by omega)
              have hn1 : (plT σ (w + 1).toNat).1 = lf - (if f < 0 then dM σ w else cM σ w f) := by
                rw [hwS, plT_1, hwn, ← hlf, show plF σ w (plT σ w.toNat) = plM σ w from rfl]
                rcases hfr with h | h
                · rw [if_pos h.2, if_pos (by omega)]
                · rw [if_neg (by omega), if_neg (by omega), ← h.2.2]
              have hn2 : (plT σ (w + 1).toNat).2 = tk - (if f < 0 then 0 else p2 f) := by
                rw [hwS, plT_2, hwn, ← htk, show plF σ w (plT σ w.toNat) = plM σ w from rfl]
                rcases hfr with h | h
                · rw [if_pos h.2, if_pos (by omega)]
                · rw [if_neg (by omega), if_neg (by omega), ← h.2.2]
              have J152 : ∀ v : Int, v = (if f < 0 then dM σ w else cM σ w f) → WG E ad 8 σ4 152 [some (.ref (ad 79)), some (.int (iI lf)), some (.int (iI (wk - p2 w))), some (.int (iI tk)), some (.int (iI w)), some (.int (iI f)), some (.int (iI t)), u7] [.int (iI v), .int (iI lf)] := by
                intro v hv
                have hvb : -1 ≤ v ∧ v ≤ 9999 := by
                  rw [hv]; by_cases h : f < 0
                  · rw [if_pos h]; have := hM.2.2.1 w (by omega) (by omega); unfold dM; omega
                  · rw [if_neg h]; exact hM.2.2.2 w f (by omega) (by omega) (by omega) (by omega)
                have J168 : ∀ b : Int, b = (if f < 0 then 0 else p2 f) → WG E ad 8 σ4 168 [some (.ref (ad 79)), some (.int (iI (lf - v))), some (.int (iI (wk - p2 w))), some (.int (iI tk)), some (.int (iI w)), some (.int (iI f)), some (.int (iI t)), u7] [.int (iI b), .int (iI tk)] := by
                  intro b hb
                  have htb : 0 ≤ tk - b ∧ tk - b < 128 := by
                    rw [hb]; by_cases h : f < 0
                    · rw [if_pos h]; omega
                    · rw [if_neg h]; have h1 := bt_le (k := tk) (t := f) (by omega) (by omega) (hfb (by omega)); have h2 := p2_k (k := f) (by omega); omega
                  refine g_isub X dX7_plans_168 ?_
                  refine g_istore3 X dX7_plans_169 (by decide) (by first | exact Or.inl rfl | exact Or.inr ⟨_, rfl, rfl⟩) ?_
                  refine g_iinc4 X dX7_plans_170 (by decide) (by first | exact Or.inl rfl | exact Or.inr ⟨_, rfl, rfl⟩) ?_
                  refine g_goto (tgt := 18) X dX7_plans_173 (by decide) ?_
                  refine ih18 _ _ _ _ _ _ _ _ (by omega) ?_ ?_ ?_ ?_ ?_ ?_ ?_ ?_
                  · omega
                  · exact hF4
                  · rw [hn1, hv]
                  · rw [hn2, hb]
                  · omega
                  · omega
                  · rw [p2_1 hw.1]; omega
                  · exact hpc4
                refine g_isub X dX7_plans_152 ?_
                refine g_istore1 X dX7_plans_153 (by decide) (by first | exact Or.inl rfl | exact Or.inr ⟨_, rfl, rfl⟩) ?_
                refine g_iload3 X dX7_plans_154 ?_
                refine g_iload5 X dX7_plans_155 ?_
                refine g_if_ge (tgt := 164) X (by first | exact hR125 _ _ | exact hRL50 _ _ | exact hRL18 _ _ | exact hR11 _ _ | exact hR6 _ _ | exact hR1 _ _ | exact hR0 _ _ | assumption | (unfold InR; omega)) dX7_plans_157 (by decide) (fun h157 => ?_) (fun h157 => ?_)
                · skip
                  refine g_iconst X dX7_plans_164 ?_
                  refine g_iload5 X dX7_plans_165 ?_
                  refine g_ishl X (b_shl (by omega)) dX7_plans_167 ?_
                  exact J168 _ (by first | (rw [if_pos (by omega)]; done) | (rw [if_neg (by omega)]; done))
                · skip
                  refine g_iconst X dX7_plans_160 ?_
                  refine g_goto (tgt := 168) X dX7_plans_161 (by decide) ?_
                  exact J168 _ (by first | (rw [if_pos (by omega)]; done) | (rw [if_neg (by omega)]; done))
              refine g_iload1 X dX7_plans_126 ?_
              refine g_iload5 X dX7_plans_127 ?_
              refine g_if_ge (tgt := 144) X (by first | exact hR125 _ _ | exact hRL50 _ _ | exact hRL18 _ _ | exact hR11 _ _ | exact hR6 _ _ | exact hR1 _ _ | exact hR0 _ _ | assumption | (unfold InR; omega)) dX7_plans_129 (by decide) (fun h129 => ?_) (fun h129 => ?_)
              · skip
                refine g_aload0 X dX7_plans_144 ?_
                refine g_iload4 X dX7_plans_145 ?_
                refine g_iload5 X dX7_plans_147 ?_
                refine g_F2 X (k_X7_of E (by omega) (by omega)) gX7_plans_X7_of rfl (by decide +kernel) (by decide) ob_79 (Nat.le_of_ble_eq_true rfl) dX7_plans_149 (fun hz149 => ?_)
                refine g_rg (fun hR149 => ?_)
                first | exact J152 _ (by rw [if_pos (by omega), e84]; rfl) | exact J152 _ (by rw [if_neg (by omega)]; exact e84 _)
              · skip
                refine g_aload0 X dX7_plans_132 ?_
                refine gf_7_s X i7 (by decide +kernel) dX7_plans_133 ?_
                refine g_iconst X dX7_plans_136 ?_
                refine g_iload4 X dX7_plans_137 ?_
                refine g_iadd X dX7_plans_139 ?_
                refine g_iald X (ia_80 (by omega)) dX7_plans_140 ?_
                refine g_goto (tgt := 152) X dX7_plans_141 (by decide) ?_
                first | exact J152 _ (by rw [if_pos (by omega), e84]; rfl) | exact J152 _ (by rw [if_neg (by omega)]; exact e84 _)
            · skip
              have J109 : ∀ (c v : Int) (σ3 : St), F84 σ σ3 → (∀ j, 0 ≤ j → j < w → σ3 84 j = n4 (plM σ j)) → v = n4 (fsP (plP σ w (plT σ w.toNat)) (σ 80 1) (σ 80 1 - t).toNat) → WG E ad 8 σ3 109 [some (.ref (ad 79)), some (.int (iI lf)), some (.int (iI (wk - p2 w))), some (.int (iI tk)), some (.int (iI w)), some (.int (iI f)), some (.int (iI t)), some (.int (iI c))] [.int (iI v)] := by
                intro c v σ3 hF3 hpc3 hv
                refine g_istore5 X dX7_plans_109 (by decide) (by first | exact Or.inl rfl | exact Or.inr ⟨_, rfl, rfl⟩) ?_
                refine g_iinc6 X dX7_plans_111 (by decide) (by first | exact Or.inl rfl | exact Or.inr ⟨_, rfl, rfl⟩) ?_
                refine g_goto (tgt := 50) X dX7_plans_114 (by decide) ?_
                refine ih50 _ _ _ _ (by omega) ?_ ?_ ?_ ?_
                · omega
                · exact hF3
                · exact hpc3
                · rw [hv, show σ 80 1 - (t + -1 + 1) = σ 80 1 - t by omega]
              have hqt := fsP_s (P := plP σ w (plT σ w.toNat)) (n := σ 80 1) (i := t) (by omega)
              have hbt := bt_01 tk t
              have hsh : tk / p2 t % 2 = bt tk t := rfl
              have htd : 0 ≤ tk / p2 t ∧ tk / p2 t < 256 := by
                have h1 := p2_k (k := t) (by omega)
                exact ⟨Int.ediv_nonneg (by omega) (by omega), Int.lt_of_le_of_lt (Int.ediv_le_self _ (by omega)) (by omega)⟩
              have J77 : ∀ c : Int, ((bt tk t = 1 ∧ c = cM σ w t ∧ -1 ≤ c ∧ c ≤ 9999) ∨ (bt tk t = 0 ∧ c = -1)) → WG E ad 8 σ2 77 [some (.ref (ad 79)), some (.int (iI lf)), some (.int (iI (wk - p2 w))), some (.int (iI tk)), some (.int (iI w)), some (.int (iI f)), some (.int (iI t)), u7] [.int (iI c)] := by
                intro c hc
                have hPt : (plP σ w (plT σ w.toNat)) t = decide (bt tk t = 1 ∧ 0 ≤ cM σ w t ∧ cM σ w t + lfV σ (wk - p2 w) (tk - p2 t) = lf) := by rw [hlf, htk, hwp]; rfl
                refine g_istore7 X dX7_plans_77 (by decide) (by first | exact Or.inl rfl | exact Or.inr ⟨_, rfl, rfl⟩) ?_
                refine g_iload7 X dX7_plans_79 ?_
                refine g_if_lt (tgt := 107) X (by first | exact hRL50 _ _ | exact hRL18 _ _ | exact hR11 _ _ | exact hR6 _ _ | exact hR1 _ _ | exact hR0 _ _ | assumption | (unfold InR; omega)) dX7_plans_81 (by decide) (fun h81 => ?_) (fun h81 => ?_)
                · skip
                  refine g_iload5 X dX7_plans_107 ?_
                  first
                    | exact J109 _ _ _ (hF2.tr hp94.2.f84) (fun j a b => by rw [hp94.2 _ _ (by omega)]; exact hpc2 j a b) (by rw [hqt]; first | (rw [if_pos (by rw [hPt]; simp only [decide_eq_true_eq]; omega)]; unfold n4; rw [if_neg (by omega)]; done) | (rw [if_neg (by rw [hPt]; simp only [decide_eq_true_eq]; omega), show σ 80 1 - (t + 1) = σ 80 1 - t - 1 by omega]; rw [show σ 80 1 - t - 1 = σ 80 1 - (t + 1) by omega]; exact hf))
                    | exact J109 _ _ _ hF2 hpc2 (by rw [hqt, if_neg (by rw [hPt]; simp only [decide_eq_true_eq]; omega)]; exact hf)
                · skip
                  refine g_iload7 X dX7_plans_84 ?_
                  refine g_aload0 X dX7_plans_86 ?_
                  refine g_iload2 X dX7_plans_87 ?_
                  refine g_iload3 X dX7_plans_88 ?_
                  refine g_iconst X dX7_plans_89 ?_
                  refine g_iload6 X dX7_plans_90 ?_
                  refine g_ishl X (b_shl (by omega)) dX7_plans_92 ?_
                  refine g_isub X dX7_plans_93 ?_
                  have hbl := bt_le (k := tk) (t := t) (by omega) (by omega) (by omega)
                  have hpt1 := p2_k (k := t) (by omega)
                  have hb9 := bt_128 (m := tk - p2 t) (by omega)
                  refine g_I2 X (k_X7_leastFor E (hF2.mt hM) (by omega) (by omega) (fun h => by omega)) gX7_plans_X7_leastFor rfl (by decide +kernel) (by decide) ob_79 (Nat.le_of_ble_eq_true rfl) dX7_plans_94 (fun z94 σ94 hz94 hp94 => ?_)
                  refine g_rg (fun hR94 => ?_)
                  have hz94 := hp94.1
                  rw [hF2.lf] at hz94
                  have hlb := lfV_b hM (wk - p2 w) (tk - p2 t)
                  refine g_iadd X dX7_plans_97 ?_
                  refine g_iload1 X dX7_plans_98 ?_
                  refine g_icmp_ne (tgt := 107) X (by first | exact hR94 _ _ | exact hRL50 _ _ | exact hRL18 _ _ | exact hR11 _ _ | exact hR6 _ _ | exact hR1 _ _ | exact hR0 _ _ | assumption | (unfold InR; omega)) (by first | exact hR94 _ _ | exact hRL50 _ _ | exact hRL18 _ _ | exact hR11 _ _ | exact hR6 _ _ | exact hR1 _ _ | exact hR0 _ _ | assumption | (unfold InR; omega)) dX7_plans_99 (by decide) (fun h99 => ?_) (fun h99 => ?_)
                  · skip
                    refine g_iload5 X dX7_plans_107 ?_
                    first
                      | exact J109 _ _ _ (hF2.tr hp94.2.f84) (fun j a b => by rw [hp94.2 _ _ (by omega)]; exact hpc2 j a b) (by rw [hqt]; first | (rw [if_pos (by rw [hPt]; simp only [decide_eq_true_eq]; omega)]; unfold n4; rw [if_neg (by omega)]; done) | (rw [if_neg (by rw [hPt]; simp only [decide_eq_true_eq]; omega), show σ 80 1 - (t + 1) = σ 80 1 - t - 1 by omega]; rw [show σ 80 1 - t - 1 = σ 80 1 - (t + 1) by omega]; exact hf))
                      | exact J109 _ _ _ hF2 hpc2 (by rw [hqt, if_neg (by rw [hPt]; simp only [decide_eq_true_eq]; omega)]; exact hf)
                  · skip
                    refine g_iload6 X dX7_plans_102 ?_
                    refine g_goto (tgt := 109) X dX7_plans_104 (by decide) ?_
                    first
                      | exact J109 _ _ _ (hF2.tr hp94.2.f84) (fun j a b => by rw [hp94.2 _ _ (by omega)]; exact hpc2 j a b) (by rw [hqt]; first | (rw [if_pos (by rw [hPt]; simp only [decide_eq_true_eq]; omega)]; unfold n4; rw [if_neg (by omega)]; done) | (rw [if_neg (by rw [hPt]; simp only [decide_eq_true_eq]; omega), show σ 80 1 - (t + 1) = σ 80 1 - t - 1 by omega]; rw [show σ 80 1 - t - 1 = σ 80 1 - (t + 1) by omega]; exact hf))
                      | exact J109 _ _ _ hF2 hpc2 (by rw [hqt, if_neg (by rw [hPt]; simp only [decide_eq_true_eq]; omega)]; exact hf)
              refine g_iload3 X dX7_plans_55 ?_
              refine g_iload6 X dX7_plans_56 ?_
              refine g_ishr X (b_shr (by omega) (by omega)) dX7_plans_58 ?_
              refine g_iconst X dX7_plans_59 ?_
              refine g_iand X (b_and1 (by omega)) dX7_plans_60 ?_
              refine g_iconst X dX7_plans_61 ?_
              refine g_icmp_ne (tgt := 76) X (by first | exact hRL50 _ _ | exact hRL18 _ _ | exact hR11 _ _ | exact hR6 _ _ | exact hR1 _ _ | exact hR0 _ _ | assumption | (unfold InR; omega)) (by first | exact hRL50 _ _ | exact hRL18 _ _ | exact hR11 _ _ | exact hR6 _ _ | exact hR1 _ _ | exact hR0 _ _ | assumption | (unfold InR; omega)) dX7_plans_62 (by decide) (fun h62 => ?_) (fun h62 => ?_)
              · skip
                refine g_iconst X dX7_plans_76 ?_
                first | exact J77 _ (Or.inr ⟨by omega, rfl⟩) | exact J77 _ (Or.inl ⟨by omega, ecm, by omega, by omega⟩)
              · skip
                refine g_aload0 X dX7_plans_65 ?_
                refine g_iload4 X dX7_plans_66 ?_
                refine g_iload6 X dX7_plans_68 ?_
                have hMw := hM.2.2.2 w t (by omega) (by omega) (by omega) (by omega)
                have ecm : cM σ2 w t = cM σ w t := e2 _
                have ecr : cM σ w t = σ 80 (9 + 7 * w + t) := rfl
                refine g_F2 X (k_X7_of E (by omega) (by omega)) gX7_plans_X7_of rfl (by decide +kernel) (by decide) ob_79 (Nat.le_of_ble_eq_true rfl) dX7_plans_70 (fun hz70 => ?_)
                refine g_rg (fun hR70 => ?_)
                refine g_goto (tgt := 77) X dX7_plans_73 (by decide) ?_
                first | exact J77 _ (Or.inr ⟨by omega, rfl⟩) | exact J77 _ (Or.inl ⟨by omega, ecm, by omega, by omega⟩)
        refine L50 _ _ _ _ _ (Nat.lt_succ_self _) ?_ ?_ ?_ ?_
        · omega
        · exact hF
        · exact hpc
        · rw [show (σ 80 1 - (σ1 80 1 - 1 + 1)).toNat = 0 by omega]; rfl
  refine L18 _ _ _ _ _ _ _ _ _ (Nat.lt_succ_self _) ?_ ?_ ?_ ?_ ?_ ?_ ?_ ?_
  · omega
  · exact hF0
  · rfl
  · rfl
  · omega
  · omega
  · rfl
  · intro j a b
    omega
