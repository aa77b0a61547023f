/-! MY CONTRACTS: the class's tables -/
def FI (f : Int → Int → Int) (b : Int) (i : Int) : Int := Nat.rec b (fun n a => f a n) i.toNat
theorem FI_0 {f : Int → Int → Int} {b : Int} : FI f b 0 = b := rfl
theorem FI_s {f : Int → Int → Int} {b i : Int} (h : 0 ≤ i) : FI f b (i + 1) = f (FI f b i) i := by
  unfold FI
  have e : (i + 1).toNat = i.toNat + 1 := by omega
  rw [e]
  show f _ (i.toNat : Int) = _
  rw [Int.toNat_of_nonneg h]
theorem ite_l {c : Prop} {d : Decidable c} {a b r : Int} (h1 : c → a = r) (h2 : ¬ c → b = r) : (if c then a else b) = r := by
  by_cases h : c
  · rw [if_pos h]; exact h1 h
  · rw [if_neg h]; exact h2 h
theorem ite_r {c : Prop} {d : Decidable c} {a b r : Int} (h1 : c → r = a) (h2 : ¬ c → r = b) : r = (if c then a else b) := by
  by_cases h : c
  · rw [if_pos h]; exact h1 h
  · rw [if_neg h]; exact h2 h
theorem st_c {σ : St} {a b c d : Int} (h1 : a = c) (h2 : b = d) : σ a b = σ c d := by rw [h1, h2]
def isB (σ : St) (t w j : Int) : Int := if j ≠ -1 ∧ σ (TR t w) j = -1 then 1 else 0
def cW (σ : St) (t w j : Int) : Int := if j = -1 then σ (TI t) w else σ (TR t w) j
def gC (σ : St) (t w i : Int) : Int := FI (fun a j => max a (σ (TR t w) j)) (σ (TI t) w) i
theorem gC_s {σ : St} {t w i : Int} (h : 0 ≤ i) : gC σ t w (i + 1) = max (gC σ t w i) (σ (TR t w) i) := FI_s h
def oR (σ : St) (t w b j : Int) : Int := FI (fun a j => if σ (TR t w) j = -1 then a else a + 1) b j
theorem oR_s {σ : St} {t w b i : Int} (h : 0 ≤ i) : oR σ t w b (i + 1) = if σ (TR t w) i = -1 then oR σ t w b i else oR σ t w b i + 1 := FI_s h
def oP (σ : St) (t n i : Int) : Int := FI (fun a w => oR σ t w a n) 0 i
theorem oP_s {σ : St} {t n i : Int} (h : 0 ≤ i) : oP σ t n (i + 1) = oR σ t i (oP σ t n i) n := FI_s h
theorem isB_01 (σ : St) (t w j : Int) : (isB σ t w j = 1 ∧ j ≠ -1 ∧ σ (TR t w) j = -1) ∨ (isB σ t w j = 0 ∧ (j = -1 ∨ σ (TR t w) j ≠ -1)) := by
  unfold isB
  by_cases h : j ≠ -1 ∧ σ (TR t w) j = -1
  · rw [if_pos h]; exact Or.inl ⟨rfl, h.1, h.2⟩
  · rw [if_neg h]; exact Or.inr ⟨rfl, by omega⟩
/-- a copy under way: rows below w whole, idle costs below v, of row w the places below j -/
def cpL (σ : St) (t u w v j : Int) : St := fun q k =>
  if q = TB t ∧ (k = 0 ∨ k = 1) then σ (TB u) k else if q = TI t ∧ 0 ≤ k ∧ k < v then σ (TI u) k
  else if TR t 0 ≤ q ∧ q < TR t w ∧ 0 ≤ k ∧ k < 7 then σ (q + 10 * (u - t)) k else if q = TR t w ∧ 0 ≤ k ∧ k < j then σ (TR u w) k else σ q k
def cpT (σ : St) (t u : Int) : St := cpL σ t u 7 7 0
def adW (σ : St) (t x j z : Int) : St := fun q k =>
  if q = TB t ∧ k = 0 then σ (TB t) 0 + z else if q = TI t ∧ k = σ (TB t) 0 then x else if q = TR t (σ (TB t) 0) ∧ 0 ≤ k ∧ k < j then -1 else σ q k
def adT (σ : St) (t j z : Int) : St := fun q k =>
  if q = TB t ∧ k = 1 then σ (TB t) 1 + z else if TR t 0 ≤ q ∧ q < TR t j ∧ k = σ (TB t) 1 then -1 else σ q k
def rmW (σ : St) (t d w v j : Int) : St := fun q k =>
  if q = TB t ∧ k = 0 then σ (TB t) 0 - 1 else if q = TI t ∧ d ≤ k ∧ k < v then σ (TI t) (k + 1)
  else if TR t d ≤ q ∧ q < TR t w ∧ 0 ≤ k ∧ k < σ (TB t) 1 then σ (q + 1) k else if q = TR t w ∧ 0 ≤ k ∧ k < j then σ (q + 1) k else σ q k
def rmT (σ : St) (t d w j : Int) : St := fun q k =>
  if q = TB t ∧ k = 1 then σ (TB t) 1 - 1 else if TR t 0 ≤ q ∧ q < TR t w ∧ d ≤ k ∧ k < σ (TB t) 1 - 1 then σ q (k + 1) else if q = TR t w ∧ d ≤ k ∧ k < j then σ q (k + 1) else σ q k
def muC (σ : St) (t w f j : Int) : St := fun q k =>
  if q = TI t ∧ k = w then σ (TI t) w * f else if q = TR t w ∧ 0 ≤ k ∧ k < j ∧ σ (TR t w) k ≠ -1 then σ (TR t w) k * f else σ q k
set_option maxHeartbeats 4000000 in
set_option maxRecDepth 100000 in
theorem k_X4_isBarred (E0 : EV) {ad : Int → Nat} {σ : St} {t w j : Int} (ht : 0 ≤ t ∧ t < 6) (hw : 0 ≤ w ∧ w < 7) (hj : -1 ≤ j ∧ j < 7) : MGE E0 yX4_isBarred wsX4_isBarred 0 0 ad σ [.ref (ad (TB t)), .int (iI w), .int (iI j)] (PF (isB σ t w j) σ) := by
  refine MGE.of (cc := cX4_isBarred) (maxL := 3) (ret := (some .boolean)) (own := RX4) [some (.ref (ad (TB t))), some (.int (iI w)), some (.int (iI j))] (by decide +kernel) rfl rfl (Nat.le_of_ble_eq_true rfl) rfl rfl (fun E X hr => ?_)
  have i4 : ∀ w ∈ wsX40, w ∈ wsX4_isBarred := by decide +kernel
  refine g_rg (fun hR0 => ?_)
  refine g_iload2 X dX4_isBarred_0 ?_
  refine g_iconst X dX4_isBarred_1 ?_
  refine g_icmp_eq (tgt := 21) X (by first | exact hR0 _ _ | assumption | (unfold InR; omega)) (by first | exact hR0 _ _ | assumption | (unfold InR; omega)) dX4_isBarred_2 (by decide) (fun h2 => ?_) (fun h2 => ?_)
  · skip
    refine g_iconst X dX4_isBarred_21 ?_
    exact g_zretF X hr (by first | exact Or.inl rfl | exact Or.inr rfl | omega) (by first | exact ⟨by simp_all [isB, cW], rfl⟩ | exact ⟨by unfold isB; rw [if_pos (by omega)], rfl⟩ | exact ⟨by unfold isB; rw [if_neg (by omega)], rfl⟩ | exact ⟨by unfold cW; rw [if_pos (by omega)], rfl⟩ | exact ⟨by unfold cW; rw [if_neg (by omega)], rfl⟩) dX4_isBarred_22
  · skip
    refine g_aload0 X dX4_isBarred_5 ?_
    refine gf_4_costs X (by omega) i4 (by decide +kernel) dX4_isBarred_6 ?_
    refine g_iload1 X dX4_isBarred_9 ?_
    refine g_aald_TC X (by omega) (by omega) dX4_isBarred_10 ?_
    refine g_iload2 X dX4_isBarred_11 ?_
    refine g_iald X (ia_TR (by omega) (by omega) (by omega)) dX4_isBarred_12 ?_
    refine g_iconst X dX4_isBarred_13 ?_
    refine g_icmp_ne (tgt := 21) X (by first | exact hR0 _ _ | assumption | (unfold InR; omega)) (by first | exact hR0 _ _ | assumption | (unfold InR; omega)) dX4_isBarred_14 (by decide) (fun h14 => ?_) (fun h14 => ?_)
    · skip
      refine g_iconst X dX4_isBarred_21 ?_
      exact g_zretF X hr (by first | exact Or.inl rfl | exact Or.inr rfl | omega) (by first | exact ⟨by simp_all [isB, cW], rfl⟩ | exact ⟨by unfold isB; rw [if_pos (by omega)], rfl⟩ | exact ⟨by unfold isB; rw [if_neg (by omega)], rfl⟩ | exact ⟨by unfold cW; rw [if_pos (by omega)], rfl⟩ | exact ⟨by unfold cW; rw [if_neg (by omega)], rfl⟩) dX4_isBarred_22
    · skip
      refine g_iconst X dX4_isBarred_17 ?_
      refine g_goto (tgt := 22) X dX4_isBarred_18 (by decide) ?_
      exact g_zretF X hr (by first | exact Or.inl rfl | exact Or.inr rfl | omega) (by first | exact ⟨by simp_all [isB, cW], rfl⟩ | exact ⟨by unfold isB; rw [if_pos (by omega)], rfl⟩ | exact ⟨by unfold isB; rw [if_neg (by omega)], rfl⟩ | exact ⟨by unfold cW; rw [if_pos (by omega)], rfl⟩ | exact ⟨by unfold cW; rw [if_neg (by omega)], rfl⟩) dX4_isBarred_22

set_option maxHeartbeats 4000000 in
set_option maxRecDepth 100000 in
theorem k_X4_costWith (E0 : EV) {ad : Int → Nat} {σ : St} {t w j : Int} (ht : 0 ≤ t ∧ t < 6) (hw : 0 ≤ w ∧ w < 7) (hj : -1 ≤ j ∧ j < 7) : MGE E0 yX4_costWith wsX4_costWith 0 0 ad σ [.ref (ad (TB t)), .int (iI w), .int (iI j)] (PF (cW σ t w j) σ) := by
  refine MGE.of (cc := cX4_costWith) (maxL := 3) (ret := (some .int)) (own := RX4) [some (.ref (ad (TB t))), some (.int (iI w)), some (.int (iI j))] (by decide +kernel) rfl rfl (Nat.le_of_ble_eq_true rfl) rfl rfl (fun E X hr => ?_)
  have i4 : ∀ w ∈ wsX40, w ∈ wsX4_costWith := by decide +kernel
  refine g_rg (fun hR0 => ?_)
  refine g_iload2 X dX4_costWith_0 ?_
  refine g_iconst X dX4_costWith_1 ?_
  refine g_icmp_ne (tgt := 14) X (by first | exact hR0 _ _ | assumption | (unfold InR; omega)) (by first | exact hR0 _ _ | assumption | (unfold InR; omega)) dX4_costWith_2 (by decide) (fun h2 => ?_) (fun h2 => ?_)
  · skip
    refine g_aload0 X dX4_costWith_14 ?_
    refine gf_4_costs X (by omega) i4 (by decide +kernel) dX4_costWith_15 ?_
    refine g_iload1 X dX4_costWith_18 ?_
    refine g_aald_TC X (by omega) (by omega) dX4_costWith_19 ?_
    refine g_iload2 X dX4_costWith_20 ?_
    refine g_iald X (ia_TR (by omega) (by omega) (by omega)) dX4_costWith_21 ?_
    exact g_iretF X hr (by first | exact hR0 _ _ | assumption | (unfold InR; omega)) (by first | exact ⟨by simp_all [isB, cW], rfl⟩ | exact ⟨by unfold isB; rw [if_pos (by omega)], rfl⟩ | exact ⟨by unfold isB; rw [if_neg (by omega)], rfl⟩ | exact ⟨by unfold cW; rw [if_pos (by omega)], rfl⟩ | exact ⟨by unfold cW; rw [if_neg (by omega)], rfl⟩) dX4_costWith_22
  · skip
    refine g_aload0 X dX4_costWith_5 ?_
    refine gf_4_idleCosts X (by omega) i4 (by decide +kernel) dX4_costWith_6 ?_
    refine g_iload1 X dX4_costWith_9 ?_
    refine g_iald X (ia_TI (by omega) (by omega)) dX4_costWith_10 ?_
    refine g_goto (tgt := 22) X dX4_costWith_11 (by decide) ?_
    exact g_iretF X hr (by first | exact hR0 _ _ | assumption | (unfold InR; omega)) (by first | exact ⟨by simp_all [isB, cW], rfl⟩ | exact ⟨by unfold isB; rw [if_pos (by omega)], rfl⟩ | exact ⟨by unfold isB; rw [if_neg (by omega)], rfl⟩ | exact ⟨by unfold cW; rw [if_pos (by omega)], rfl⟩ | exact ⟨by unfold cW; rw [if_neg (by omega)], rfl⟩) dX4_costWith_22

set_option maxHeartbeats 4000000 in
set_option maxRecDepth 100000 in
theorem k_X4_allWorkers (E0 : EV) {ad : Int → Nat} {σ : St} {t : Int} (ht : 0 ≤ t ∧ t < 6) (hm : 0 ≤ σ (TB t) 0 ∧ σ (TB t) 0 ≤ 7) : MGE E0 yX4_allWorkers wsX4_allWorkers 0 0 ad σ [.ref (ad (TB t))] (PF (p2 (σ (TB t) 0) - 1) σ) := by
  refine MGE.of (cc := cX4_allWorkers) (maxL := 1) (ret := (some .int)) (own := RX4) [some (.ref (ad (TB t)))] (by decide +kernel) rfl rfl (Nat.le_of_ble_eq_true rfl) rfl rfl (fun E X hr => ?_)
  have i4 : ∀ w ∈ wsX40, w ∈ wsX4_allWorkers := by decide +kernel
  refine g_rg (fun hR0 => ?_)
  refine g_iconst X dX4_allWorkers_0 ?_
  refine g_aload0 X dX4_allWorkers_1 ?_
  refine gf_4_workers X (by omega) i4 (by decide +kernel) dX4_allWorkers_2 ?_
  refine g_ishl X (b_shl (by omega)) dX4_allWorkers_5 ?_
  refine g_iconst X dX4_allWorkers_6 ?_
  refine g_isub X dX4_allWorkers_7 ?_
  have hp := p2_k (k := σ (TB t) 0) (by omega)
  exact g_iretF X hr (by first | exact hR0 _ _ | assumption | (unfold InR; omega)) (by first | exact ⟨rfl, rfl⟩ | rfl | simp_all) dX4_allWorkers_8

set_option maxHeartbeats 4000000 in
set_option maxRecDepth 100000 in
theorem k_X4_allWorkersBut (E0 : EV) {ad : Int → Nat} {σ : St} {t w : Int} (ht : 0 ≤ t ∧ t < 6) (hm : 0 ≤ σ (TB t) 0 ∧ σ (TB t) 0 ≤ 7) (hw : 0 ≤ w ∧ w < 7) : MGE E0 yX4_allWorkersBut wsX4_allWorkersBut 1 20 ad σ [.ref (ad (TB t)), .int (iI w)] (PF (ub (p2 (σ (TB t) 0) - 1) w) σ) := by
  refine MGE.of (cc := cX4_allWorkersBut) (maxL := 2) (ret := (some .int)) (own := RX4) [some (.ref (ad (TB t))), some (.int (iI w))] (by decide +kernel) rfl rfl (Nat.le_of_ble_eq_true rfl) rfl rfl (fun E X hr => ?_)
  refine g_rg (fun hR0 => ?_)
  refine g_aload0 X dX4_allWorkersBut_0 ?_
  refine g_F0 X (k_X4_allWorkers E (by omega) (by omega)) gX4_allWorkersBut_X4_allWorkers rfl (by decide +kernel) (by decide) (ob_TB (by omega)) (Nat.le_of_ble_eq_true rfl) dX4_allWorkersBut_1 (fun hz1 => ?_)
  refine g_rg (fun hR1 => ?_)
  have hp := p2_k (k := σ (TB t) 0) (by omega)
  have hp2 := p2_k (k := w) (by omega)
  have hp5 := p2_lt (k := w) (n := 8) (by omega) (by omega) (by omega)
  have hp3 := p2_lt (k := σ (TB t) 0) (n := 8) (by omega) (by omega) (by omega)
  have hp4 : p2 8 = 256 := rfl
  refine g_iconst X dX4_allWorkersBut_4 ?_
  refine g_iload1 X dX4_allWorkersBut_5 ?_
  refine g_ishl X (b_shl (by omega)) dX4_allWorkersBut_6 ?_
  refine g_iconst X dX4_allWorkersBut_7 ?_
  refine g_ixor X (b_xorm (by omega)) dX4_allWorkersBut_8 ?_
  refine g_iand X (b_andn (by omega) (by omega)) dX4_allWorkersBut_9 ?_
  have hu := ub_lt (m := p2 (σ (TB t) 0) - 1) (k := w) (n := 8) (by omega) (by omega) (by omega)
  exact g_iretF X hr (by first | exact hR1 _ _ | exact hR0 _ _ | assumption | (unfold InR; omega)) (by first | exact ⟨rfl, rfl⟩ | rfl | simp_all) dX4_allWorkersBut_10

set_option maxHeartbeats 4000000 in
set_option maxRecDepth 100000 in
theorem k_X4_greatestCost (E0 : EV) {ad : Int → Nat} {σ : St} {t w : Int} (ht : 0 ≤ t ∧ t < 6) (hn : 0 ≤ σ (TB t) 1 ∧ σ (TB t) 1 ≤ 7) (hw : 0 ≤ w ∧ w < 7) : MGE E0 yX4_greatestCost wsX4_greatestCost 1 21 ad σ [.ref (ad (TB t)), .int (iI w)] (PF (gC σ t w (σ (TB t) 1)) σ) := by
  refine MGE.of (cc := cX4_greatestCost) (maxL := 4) (ret := (some .int)) (own := RX4) [some (.ref (ad (TB t))), some (.int (iI w)), none, none] (by decide +kernel) rfl rfl (Nat.le_of_ble_eq_true rfl) rfl rfl (fun E X hr => ?_)
  have i4 : ∀ w ∈ wsX40, w ∈ wsX4_greatestCost := by decide +kernel
  refine g_rg (fun hR0 => ?_)
  refine g_aload0 X dX4_greatestCost_0 ?_
  refine gf_4_idleCosts X (by omega) i4 (by decide +kernel) dX4_greatestCost_1 ?_
  refine g_iload1 X dX4_greatestCost_4 ?_
  refine g_iald X (ia_TI (by omega) (by omega)) dX4_greatestCost_5 ?_
  refine g_istore2 X dX4_greatestCost_6 (by decide) (by first | exact Or.inl rfl | exact Or.inr ⟨_, rfl, rfl⟩) ?_
  refine g_iconst X dX4_greatestCost_7 ?_
  refine g_istore3 X dX4_greatestCost_8 (by decide) (by first | exact Or.inl rfl | exact Or.inr ⟨_, rfl, rfl⟩) ?_
  have L9 : ∀ (n9 : Nat) (i a : Int), (σ (TB t) 1 - i).toNat < n9 → (0 ≤ i ∧ i ≤ σ (TB t) 1) → (InR a) → (a = gC σ t w i) → WG E ad 4 σ 9 [some (.ref (ad (TB t))), some (.int (iI w)), some (.int (iI a)), some (.int (iI i))] [] := by
    intro n9
    induction n9 with
    | zero => intro i a hn; exact absurd hn (Nat.not_lt_zero _)
    | succ n9 ih9 =>
      intro i a hn9 hi ha hs
      refine g_rg (fun hRL9 => ?_)
      refine g_iload3 X dX4_greatestCost_9 ?_
      refine g_aload0 X dX4_greatestCost_10 ?_
      refine gf_4_tasks X (by omega) i4 (by decide +kernel) dX4_greatestCost_11 ?_
      refine g_icmp_ge (tgt := 36) X (by first | exact hRL9 _ _ | exact hR0 _ _ | assumption | (unfold InR; omega)) (by first | exact hRL9 _ _ | exact hR0 _ _ | assumption | (unfold InR; omega)) dX4_greatestCost_14 (by decide) (fun h14 => ?_) (fun h14 => ?_)
      · skip
        refine g_iload2 X dX4_greatestCost_36 ?_
        exact g_iretF X hr (by first | exact hRL9 _ _ | exact hR0 _ _ | assumption | (unfold InR; omega)) ⟨by rw [hs]; congr 1; omega, rfl⟩ dX4_greatestCost_37
      · skip
        refine g_iload2 X dX4_greatestCost_17 ?_
        refine g_aload0 X dX4_greatestCost_18 ?_
        refine gf_4_costs X (by omega) i4 (by decide +kernel) dX4_greatestCost_19 ?_
        refine g_iload1 X dX4_greatestCost_22 ?_
        refine g_aald_TC X (by omega) (by omega) dX4_greatestCost_23 ?_
        refine g_iload3 X dX4_greatestCost_24 ?_
        refine g_iald X (ia_TR (by omega) (by omega) (by omega)) dX4_greatestCost_25 ?_
        refine g_max X (by first | exact hRL9 _ _ | exact hR0 _ _ | assumption | (unfold InR; omega)) (by first | exact hRL9 _ _ | exact hR0 _ _ | assumption | (unfold InR; omega)) (by decide +kernel) (by decide +kernel) (by decide +kernel) (by decide +kernel) (by decide) (Nat.le_of_ble_eq_true rfl) dX4_greatestCost_26 ?_
        refine g_istore2 X dX4_greatestCost_29 (by decide) (by first | exact Or.inl rfl | exact Or.inr ⟨_, rfl, rfl⟩) ?_
        refine g_iinc3 X dX4_greatestCost_30 (by decide) (by first | exact Or.inl rfl | exact Or.inr ⟨_, rfl, rfl⟩) ?_
        refine g_goto (tgt := 9) X dX4_greatestCost_33 (by decide) ?_
        refine ih9 _ _ (by omega) ?_ ?_ ?_
        · omega
        · unfold InR at ha ⊢
          have h9 := hR0 (TR t w) i
          unfold InR at h9
          omega
        · rw [hs]
          exact (gC_s hi.1).symm
  refine L9 _ _ _ (Nat.lt_succ_self _) ?_ ?_ ?_
  · omega
  · exact hR0 _ _
  · rfl

set_option maxHeartbeats 4000000 in
set_option maxRecDepth 100000 in
theorem k_X4_openPairs (E0 : EV) {ad : Int → Nat} {σ : St} {t : Int} (ht : 0 ≤ t ∧ t < 6) (hm : 0 ≤ σ (TB t) 0 ∧ σ (TB t) 0 ≤ 7) (hn : 0 ≤ σ (TB t) 1 ∧ σ (TB t) 1 ≤ 7) : MGE E0 yX4_openPairs wsX4_openPairs 1 22 ad σ [.ref (ad (TB t))] (PF (oP σ t (σ (TB t) 1) (σ (TB t) 0)) σ) := by
  refine MGE.of (cc := cX4_openPairs) (maxL := 4) (ret := (some .int)) (own := RX4) [some (.ref (ad (TB t))), none, none, none] (by decide +kernel) rfl rfl (Nat.le_of_ble_eq_true rfl) rfl rfl (fun E X hr => ?_)
  have i4 : ∀ w ∈ wsX40, w ∈ wsX4_openPairs := by decide +kernel
  refine g_rg (fun hR0 => ?_)
  refine g_iconst X dX4_openPairs_0 ?_
  refine g_istore1 X dX4_openPairs_1 (by decide) (by first | exact Or.inl rfl | exact Or.inr ⟨_, rfl, rfl⟩) ?_
  refine g_iconst X dX4_openPairs_2 ?_
  refine g_istore2 X dX4_openPairs_3 (by decide) (by first | exact Or.inl rfl | exact Or.inr ⟨_, rfl, rfl⟩) ?_
  have L4 : ∀ (n4 : Nat) (i a : Int) (u : Option Value), (σ (TB t) 0 - i).toNat < n4 → (0 ≤ i ∧ i ≤ σ (TB t) 0) → (0 ≤ a ∧ a ≤ 7 * i) → (a = oP σ t (σ (TB t) 1) i) → WG E ad 4 σ 4 [some (.ref (ad (TB t))), some (.int (iI a)), some (.int (iI i)), u] [] := by
    intro n4
    induction n4 with
    | zero => intro i a u hn; exact absurd hn (Nat.not_lt_zero _)
    | succ n4 ih4 =>
      intro i a u hn4 hi ha hs
      refine g_rg (fun hRL4 => ?_)
      refine g_iload2 X dX4_openPairs_4 ?_
      refine g_aload0 X dX4_openPairs_5 ?_
      refine gf_4_workers X (by omega) i4 (by decide +kernel) dX4_openPairs_6 ?_
      refine g_icmp_ge (tgt := 46) X (by first | exact hRL4 _ _ | exact hR0 _ _ | assumption | (unfold InR; omega)) (by first | exact hRL4 _ _ | exact hR0 _ _ | assumption | (unfold InR; omega)) dX4_openPairs_9 (by decide) (fun h9 => ?_) (fun h9 => ?_)
      · skip
        refine g_iload1 X dX4_openPairs_46 ?_
        exact g_iretF X hr (by first | exact hRL4 _ _ | exact hR0 _ _ | assumption | (unfold InR; omega)) ⟨by rw [hs]; congr 1; omega, rfl⟩ dX4_openPairs_47
      · skip
        refine g_iconst X dX4_openPairs_12 ?_
        refine g_istore3 X dX4_openPairs_13 (by decide) (by first | exact Or.inl rfl | exact Or.inr ⟨_, rfl, rfl⟩) ?_
        have L14 : ∀ (n14 : Nat) (j b : Int), (σ (TB t) 1 - j).toNat < n14 → (0 ≤ j ∧ j ≤ σ (TB t) 1) → (0 ≤ b ∧ b ≤ 7 * i + j) → (b = oR σ t i a j) → WG E ad 4 σ 14 [some (.ref (ad (TB t))), some (.int (iI b)), some (.int (iI i)), some (.int (iI j))] [] := by
          intro n14
          induction n14 with
          | zero => intro j b hn; exact absurd hn (Nat.not_lt_zero _)
          | succ n14 ih14 =>
            intro j b hn14 hj hb hs2
            refine g_rg (fun hRL14 => ?_)
            refine g_iload3 X dX4_openPairs_14 ?_
            refine g_aload0 X dX4_openPairs_15 ?_
            refine gf_4_tasks X (by omega) i4 (by decide +kernel) dX4_openPairs_16 ?_
            refine g_icmp_ge (tgt := 40) X (by first | exact hRL14 _ _ | exact hRL4 _ _ | exact hR0 _ _ | assumption | (unfold InR; omega)) (by first | exact hRL14 _ _ | exact hRL4 _ _ | exact hR0 _ _ | assumption | (unfold InR; omega)) dX4_openPairs_19 (by decide) (fun h19 => ?_) (fun h19 => ?_)
            · skip
              refine g_iinc2 X dX4_openPairs_40 (by decide) (by first | exact Or.inl rfl | exact Or.inr ⟨_, rfl, rfl⟩) ?_
              refine g_goto (tgt := 4) X dX4_openPairs_43 (by decide) ?_
              refine ih4 _ _ _ (by omega) ?_ ?_ ?_
              · omega
              · omega
              · rw [hs2, hs, oP_s hi.1]; congr 1; omega
            · skip
              refine g_aload0 X dX4_openPairs_22 ?_
              refine g_iload2 X dX4_openPairs_23 ?_
              refine g_iload3 X dX4_openPairs_24 ?_
              refine g_F2 X (k_X4_isBarred E (by omega) (by omega) (by omega)) gX4_openPairs_X4_isBarred rfl (by decide +kernel) (by decide) (ob_TB (by omega)) (Nat.le_of_ble_eq_true rfl) dX4_openPairs_25 (fun hz25 => ?_)
              refine g_rg (fun hR25 => ?_)
              have hb1 := isB_01 σ t i j
              refine g_if_ne (tgt := 34) X (by first | exact hR25 _ _ | exact hRL14 _ _ | exact hRL4 _ _ | exact hR0 _ _ | assumption | (unfold InR; omega)) dX4_openPairs_28 (by decide) (fun h28 => ?_) (fun h28 => ?_)
              · skip
                refine g_iinc3 X dX4_openPairs_34 (by decide) (by first | exact Or.inl rfl | exact Or.inr ⟨_, rfl, rfl⟩) ?_
                refine g_goto (tgt := 14) X dX4_openPairs_37 (by decide) ?_
                refine ih14 _ _ (by omega) ?_ ?_ ?_
                · omega
                · omega
                · first | (rw [hs2, oR_s hj.1, if_pos (by omega)]; done) | (rw [hs2, oR_s hj.1, if_neg (by omega)]; done)
              · skip
                refine g_iinc1 X dX4_openPairs_31 (by decide) (by first | exact Or.inl rfl | exact Or.inr ⟨_, rfl, rfl⟩) ?_
                refine g_iinc3 X dX4_openPairs_34 (by decide) (by first | exact Or.inl rfl | exact Or.inr ⟨_, rfl, rfl⟩) ?_
                refine g_goto (tgt := 14) X dX4_openPairs_37 (by decide) ?_
                refine ih14 _ _ (by omega) ?_ ?_ ?_
                · omega
                · omega
                · first | (rw [hs2, oR_s hj.1, if_pos (by omega)]; done) | (rw [hs2, oR_s hj.1, if_neg (by omega)]; done)
        refine L14 _ _ _ (Nat.lt_succ_self _) ?_ ?_ ?_
        · omega
        · omega
        · rfl
  refine L4 _ _ _ _ (Nat.lt_succ_self _) ?_ ?_ ?_
  · omega
  · omega
  · rfl

set_option maxHeartbeats 4000000 in
set_option maxRecDepth 100000 in
theorem k_X4_copyFrom (E0 : EV) {ad : Int → Nat} {σ : St} {t u : Int} (ht : 0 ≤ t ∧ t < 6) (hu : 0 ≤ u ∧ u < 6) : MGE E0 yX4_copyFrom wsX4_copyFrom 0 0 ad σ [.ref (ad (TB t)), .ref (ad (TB u))] (PW (cpT σ t u)) := by
  refine MGE.of (cc := cX4_copyFrom) (maxL := 4) (ret := none) (own := RX4) [some (.ref (ad (TB t))), some (.ref (ad (TB u))), none, none] (by decide +kernel) rfl rfl (Nat.le_of_ble_eq_true rfl) rfl rfl (fun E X hr => ?_)
  have i4 : ∀ w ∈ wsX40, w ∈ wsX4_copyFrom := by decide +kernel
  refine g_rg (fun hR0 => ?_)
  refine g_aload0 X dX4_copyFrom_0 ?_
  refine g_aload1 X dX4_copyFrom_1 ?_
  refine gf_4_workers X (by omega) i4 (by decide +kernel) dX4_copyFrom_2 ?_
  refine gp_4_workers X (by omega) i4 (by decide +kernel) (by first | exact hR0 _ _ | assumption | (unfold InR; omega)) dX4_copyFrom_5 ?_
  refine g_rg (fun hR5 => ?_)
  refine g_aload0 X dX4_copyFrom_8 ?_
  refine g_aload1 X dX4_copyFrom_9 ?_
  refine gf_4_tasks X (by omega) i4 (by decide +kernel) dX4_copyFrom_10 ?_
  refine gp_4_tasks X (by omega) i4 (by decide +kernel) (by first | exact hR5 _ _ | exact hR0 _ _ | assumption | (unfold InR; omega)) dX4_copyFrom_13 ?_
  refine g_rg (fun hR13 => ?_)
  refine g_iconst X dX4_copyFrom_16 ?_
  refine g_istore2 X dX4_copyFrom_17 (by decide) (by first | exact Or.inl rfl | exact Or.inr ⟨_, rfl, rfl⟩) ?_
  have L18 : ∀ (n18 : Nat) (w : Int) (σ1 : St) (u3 : Option Value), (7 - w).toNat < n18 → (0 ≤ w ∧ w ≤ 7) → (σ1 = cpL σ t u w w 0) → WG E ad 4 σ1 18 [some (.ref (ad (TB t))), some (.ref (ad (TB u))), some (.int (iI w)), u3] [] := by
    intro n18
    induction n18 with
    | zero => intro w σ1 u3 hn; exact absurd hn (Nat.not_lt_zero _)
    | succ n18 ih18 =>
      intro w σ1 u3 hn18 hw hs
      refine g_rg (fun hRL18 => ?_)
      refine g_iload2 X dX4_copyFrom_18 ?_
      refine g_bipush X dX4_copyFrom_19 (by decide +kernel) ?_
      refine g_icmp_ge (tgt := 72) X (by first | exact hRL18 _ _ | exact hR13 _ _ | exact hR5 _ _ | exact hR0 _ _ | assumption | (unfold InR; omega)) (by first | exact hRL18 _ _ | exact hR13 _ _ | exact hR5 _ _ | exact hR0 _ _ | assumption | (unfold InR; omega)) dX4_copyFrom_21 (by decide) (fun h21 => ?_) (fun h21 => ?_)
      · skip
        exact g_vretW X hr (by rw [hs, show w = 7 by omega]; rfl) dX4_copyFrom_72
      · skip
        refine g_aload0 X dX4_copyFrom_24 ?_
        refine gf_4_idleCosts X (by omega) i4 (by decide +kernel) dX4_copyFrom_25 ?_
        refine g_iload2 X dX4_copyFrom_28 ?_
        refine g_aload1 X dX4_copyFrom_29 ?_
        refine gf_4_idleCosts X (by omega) i4 (by decide +kernel) dX4_copyFrom_30 ?_
        refine g_iload2 X dX4_copyFrom_33 ?_
        refine g_iald X (ia_TI (by omega) (by omega)) dX4_copyFrom_34 ?_
        refine g_iast X (ia_TI (by omega) (by omega)) (by first | exact hRL18 _ _ | exact hR13 _ _ | exact hR5 _ _ | exact hR0 _ _ | assumption | (unfold InR; omega)) dX4_copyFrom_35 ?_
        refine g_rg (fun hR35 => ?_)
        refine g_iconst X dX4_copyFrom_36 ?_
        refine g_istore3 X dX4_copyFrom_37 (by decide) (by first | exact Or.inl rfl | exact Or.inr ⟨_, rfl, rfl⟩) ?_
        have L38 : ∀ (n38 : Nat) (j : Int) (σ2 : St), (7 - j).toNat < n38 → (0 ≤ j ∧ j ≤ 7) → (σ2 = cpL σ t u w (w + 1) j) → WG E ad 4 σ2 38 [some (.ref (ad (TB t))), some (.ref (ad (TB u))), some (.int (iI w)), some (.int (iI j))] [] := by
          intro n38
          induction n38 with
          | zero => intro j σ2 hn; exact absurd hn (Nat.not_lt_zero _)
          | succ n38 ih38 =>
            intro j σ2 hn38 hj hs2
            refine g_rg (fun hRL38 => ?_)
            refine g_iload3 X dX4_copyFrom_38 ?_
            refine g_bipush X dX4_copyFrom_39 (by decide +kernel) ?_
            refine g_icmp_ge (tgt := 66) X (by first | exact hRL38 _ _ | exact hR35 _ _ | exact hRL18 _ _ | exact hR13 _ _ | exact hR5 _ _ | exact hR0 _ _ | assumption | (unfold InR; omega)) (by first | exact hRL38 _ _ | exact hR35 _ _ | exact hRL18 _ _ | exact hR13 _ _ | exact hR5 _ _ | exact hR0 _ _ | assumption | (unfold InR; omega)) dX4_copyFrom_41 (by decide) (fun h41 => ?_) (fun h41 => ?_)
            · skip
              refine g_iinc2 X dX4_copyFrom_66 (by decide) (by first | exact Or.inl rfl | exact Or.inr ⟨_, rfl, rfl⟩) ?_
              refine g_goto (tgt := 18) X dX4_copyFrom_69 (by decide) ?_
              refine ih18 _ _ _ (by omega) ?_ ?_
              · omega
              · rw [hs2]
                funext q k
                simp only [up, cpL, TB, TI, TC, TR, Int.add_zero, and_true, true_and]
                simp only [TB, TI, TC, TR] at *
                repeat' first | refine ite_l (fun h => ?_) (fun h => ?_) | refine ite_r (fun h => ?_) (fun h => ?_)
                all_goals first | omega | (refine st_c ?_ ?_ <;> omega) | (refine congrArg (fun x => x * f) (st_c ?_ ?_) <;> omega) | skip
            · skip
              refine g_aload0 X dX4_copyFrom_44 ?_
              refine gf_4_costs X (by omega) i4 (by decide +kernel) dX4_copyFrom_45 ?_
              refine g_iload2 X dX4_copyFrom_48 ?_
              refine g_aald_TC X (by omega) (by omega) dX4_copyFrom_49 ?_
              refine g_iload3 X dX4_copyFrom_50 ?_
              refine g_aload1 X dX4_copyFrom_51 ?_
              refine gf_4_costs X (by omega) i4 (by decide +kernel) dX4_copyFrom_52 ?_
              refine g_iload2 X dX4_copyFrom_55 ?_
              refine g_aald_TC X (by omega) (by omega) dX4_copyFrom_56 ?_
              refine g_iload3 X dX4_copyFrom_57 ?_
              refine g_iald X (ia_TR (by omega) (by omega) (by omega)) dX4_copyFrom_58 ?_
              refine g_iast X (ia_TR (by omega) (by omega) (by omega)) (by first | exact hRL38 _ _ | exact hR35 _ _ | exact hRL18 _ _ | exact hR13 _ _ | exact hR5 _ _ | exact hR0 _ _ | assumption | (unfold InR; omega)) dX4_copyFrom_59 ?_
              refine g_rg (fun hR59 => ?_)
              refine g_iinc3 X dX4_copyFrom_60 (by decide) (by first | exact Or.inl rfl | exact Or.inr ⟨_, rfl, rfl⟩) ?_
              refine g_goto (tgt := 38) X dX4_copyFrom_63 (by decide) ?_
              refine ih38 _ _ (by omega) ?_ ?_
              · omega
              · rw [hs2]
                funext q k
                simp only [up, cpL, TB, TI, TC, TR, Int.add_zero, and_true, true_and]
                simp only [TB, TI, TC, TR] at *
                repeat' first | refine ite_l (fun h => ?_) (fun h => ?_) | refine ite_r (fun h => ?_) (fun h => ?_)
                all_goals first | omega | (refine st_c ?_ ?_ <;> omega) | (refine congrArg (fun x => x * f) (st_c ?_ ?_) <;> omega) | skip
        refine L38 _ _ _ (Nat.lt_succ_self _) ?_ ?_
        · omega
        · rw [hs]
          funext q k
          simp only [up, cpL, TB, TI, TC, TR, Int.add_zero, and_true, true_and]
          simp only [TB, TI, TC, TR] at *
          repeat' first | refine ite_l (fun h => ?_) (fun h => ?_) | refine ite_r (fun h => ?_) (fun h => ?_)
          all_goals first | omega | (refine st_c ?_ ?_ <;> omega) | (refine congrArg (fun x => x * f) (st_c ?_ ?_) <;> omega) | skip
  refine L18 _ _ _ _ (Nat.lt_succ_self _) ?_ ?_
  · omega
  · funext q k
    simp only [up, cpL, TB, TI, TC, TR, Int.add_zero, and_true, true_and]
    simp only [TB, TI, TC, TR] at *
    repeat' first | refine ite_l (fun h => ?_) (fun h => ?_) | refine ite_r (fun h => ?_) (fun h => ?_)
    all_goals first | omega | (refine st_c ?_ ?_ <;> omega) | (refine congrArg (fun x => x * f) (st_c ?_ ?_) <;> omega) | skip

set_option maxHeartbeats 4000000 in
set_option maxRecDepth 100000 in
theorem k_X4_addWorker (E0 : EV) {ad : Int → Nat} {σ : St} {t x : Int} (ht : 0 ≤ t ∧ t < 6) (hm : 0 ≤ σ (TB t) 0 ∧ σ (TB t) 0 < 7) (hn : 0 ≤ σ (TB t) 1 ∧ σ (TB t) 1 ≤ 7) (hx : 0 ≤ x ∧ x ≤ 9999) : MGE E0 yX4_addWorker wsX4_addWorker 0 0 ad σ [.ref (ad (TB t)), .int (iI x)] (PW (adW σ t x (σ (TB t) 1) 1)) := by
  refine MGE.of (cc := cX4_addWorker) (maxL := 3) (ret := none) (own := RX4) [some (.ref (ad (TB t))), some (.int (iI x)), none] (by decide +kernel) rfl rfl (Nat.le_of_ble_eq_true rfl) rfl rfl (fun E X hr => ?_)
  have i4 : ∀ w ∈ wsX40, w ∈ wsX4_addWorker := by decide +kernel
  refine g_rg (fun hR0 => ?_)
  refine g_aload0 X dX4_addWorker_0 ?_
  refine gf_4_idleCosts X (by omega) i4 (by decide +kernel) dX4_addWorker_1 ?_
  refine g_aload0 X dX4_addWorker_4 ?_
  refine gf_4_workers X (by omega) i4 (by decide +kernel) dX4_addWorker_5 ?_
  refine g_iload1 X dX4_addWorker_8 ?_
  refine g_iast X (ia_TI (by omega) (by omega)) (by first | exact hR0 _ _ | assumption | (unfold InR; omega)) dX4_addWorker_9 ?_
  refine g_rg (fun hR9 => ?_)
  refine g_iconst X dX4_addWorker_10 ?_
  refine g_istore2 X dX4_addWorker_11 (by decide) (by first | exact Or.inl rfl | exact Or.inr ⟨_, rfl, rfl⟩) ?_
  have L12 : ∀ (n12 : Nat) (j : Int) (σ1 : St), (σ (TB t) 1 - j).toNat < n12 → (0 ≤ j ∧ j ≤ σ (TB t) 1) → (σ1 = adW σ t x j 0) → WG E ad 3 σ1 12 [some (.ref (ad (TB t))), some (.int (iI x)), some (.int (iI j))] [] := by
    intro n12
    induction n12 with
    | zero => intro j σ1 hn; exact absurd hn (Nat.not_lt_zero _)
    | succ n12 ih12 =>
      intro j σ1 hn12 hj hs
      refine g_rg (fun hRL12 => ?_)
      have e0 : σ1 (TB t) 0 = σ (TB t) 0 := by rw [hs]; unfold adW; rw [if_pos ⟨rfl, rfl⟩]; omega
      have e1 : σ1 (TB t) 1 = σ (TB t) 1 := by
        rw [hs]
        simp only [adW, TB, TI, TR] at *
        repeat' refine ite_l (fun h => ?_) (fun h => ?_)
        all_goals omega
      refine g_iload2 X dX4_addWorker_12 ?_
      refine g_aload0 X dX4_addWorker_13 ?_
      refine gf_4_tasks X (by omega) i4 (by decide +kernel) dX4_addWorker_14 ?_
      refine g_icmp_ge (tgt := 38) X (by first | exact hRL12 _ _ | exact hR9 _ _ | exact hR0 _ _ | assumption | (unfold InR; omega)) (by first | exact hRL12 _ _ | exact hR9 _ _ | exact hR0 _ _ | assumption | (unfold InR; omega)) dX4_addWorker_17 (by decide) (fun h17 => ?_) (fun h17 => ?_)
      · skip
        refine g_aload0 X dX4_addWorker_38 ?_
        refine g_dup X dX4_addWorker_39 rfl ?_
        refine gf_4_workers X (by omega) i4 (by decide +kernel) dX4_addWorker_40 ?_
        refine g_iconst X dX4_addWorker_43 ?_
        refine g_iadd X dX4_addWorker_44 ?_
        refine gp_4_workers X (by omega) i4 (by decide +kernel) (by first | exact hRL12 _ _ | exact hR9 _ _ | exact hR0 _ _ | assumption | (unfold InR; omega)) dX4_addWorker_45 ?_
        refine g_rg (fun hR45 => ?_)
        exact g_vretW X hr (by
    rw [e0]
    rw [hs]
    funext q k
    simp only [up, adW, TB, TI, TC, TR, Int.add_zero, and_true, true_and]
    simp only [TB, TI, TC, TR] at *
    repeat' first | refine ite_l (fun h => ?_) (fun h => ?_) | refine ite_r (fun h => ?_) (fun h => ?_)
    all_goals first | omega | (refine st_c ?_ ?_ <;> omega) | (refine congrArg (fun x => x * f) (st_c ?_ ?_) <;> omega) | skip) dX4_addWorker_48
      · skip
        refine g_aload0 X dX4_addWorker_20 ?_
        refine gf_4_costs X (by omega) i4 (by decide +kernel) dX4_addWorker_21 ?_
        refine g_aload0 X dX4_addWorker_24 ?_
        refine gf_4_workers X (by omega) i4 (by decide +kernel) dX4_addWorker_25 ?_
        refine g_aald_TC X (by omega) (by omega) dX4_addWorker_28 ?_
        refine g_iload2 X dX4_addWorker_29 ?_
        refine g_iconst X dX4_addWorker_30 ?_
        refine g_iast X (ia_TR (by omega) (by omega) (by omega)) (by first | exact hRL12 _ _ | exact hR9 _ _ | exact hR0 _ _ | assumption | (unfold InR; omega)) dX4_addWorker_31 ?_
        refine g_rg (fun hR31 => ?_)
        refine g_iinc2 X dX4_addWorker_32 (by decide) (by first | exact Or.inl rfl | exact Or.inr ⟨_, rfl, rfl⟩) ?_
        refine g_goto (tgt := 12) X dX4_addWorker_35 (by decide) ?_
        refine ih12 _ _ (by omega) ?_ ?_
        · omega
        · rw [hs]
          funext q k
          simp only [up, adW, TB, TI, TC, TR, Int.add_zero, and_true, true_and]
          simp only [TB, TI, TC, TR] at *
          repeat' first | refine ite_l (fun h => ?_) (fun h => ?_) | refine ite_r (fun h => ?_) (fun h => ?_)
          all_goals first | omega | (refine st_c ?_ ?_ <;> omega) | (refine congrArg (fun x => x * f) (st_c ?_ ?_) <;> omega) | skip
  refine L12 _ _ _ (Nat.lt_succ_self _) ?_ ?_
  · omega
  · funext q k
    simp only [up, adW, TB, TI, TC, TR, Int.add_zero, and_true, true_and]
    simp only [TB, TI, TC, TR] at *
    repeat' first | refine ite_l (fun h => ?_) (fun h => ?_) | refine ite_r (fun h => ?_) (fun h => ?_)
    all_goals first | omega | (refine st_c ?_ ?_ <;> omega) | (refine congrArg (fun x => x * f) (st_c ?_ ?_) <;> omega) | skip

set_option maxHeartbeats 4000000 in
set_option maxRecDepth 100000 in
theorem k_X4_addTask (E0 : EV) {ad : Int → Nat} {σ : St} {t : Int} (ht : 0 ≤ t ∧ t < 6) (hm : 0 ≤ σ (TB t) 0 ∧ σ (TB t) 0 ≤ 7) (hn : 0 ≤ σ (TB t) 1 ∧ σ (TB t) 1 < 7) : MGE E0 yX4_addTask wsX4_addTask 0 0 ad σ [.ref (ad (TB t))] (PW (adT σ t (σ (TB t) 0) 1)) := by
  refine MGE.of (cc := cX4_addTask) (maxL := 2) (ret := none) (own := RX4) [some (.ref (ad (TB t))), none] (by decide +kernel) rfl rfl (Nat.le_of_ble_eq_true rfl) rfl rfl (fun E X hr => ?_)
  have i4 : ∀ w ∈ wsX40, w ∈ wsX4_addTask := by decide +kernel
  refine g_rg (fun hR0 => ?_)
  refine g_iconst X dX4_addTask_0 ?_
  refine g_istore1 X dX4_addTask_1 (by decide) (by first | exact Or.inl rfl | exact Or.inr ⟨_, rfl, rfl⟩) ?_
  have L2 : ∀ (n2 : Nat) (j : Int) (σ1 : St), (σ (TB t) 0 - j).toNat < n2 → (0 ≤ j ∧ j ≤ σ (TB t) 0) → (σ1 = adT σ t j 0) → WG E ad 2 σ1 2 [some (.ref (ad (TB t))), some (.int (iI j))] [] := by
    intro n2
    induction n2 with
    | zero => intro j σ1 hn; exact absurd hn (Nat.not_lt_zero _)
    | succ n2 ih2 =>
      intro j σ1 hn2 hj hs
      refine g_rg (fun hRL2 => ?_)
      have e0 : σ1 (TB t) 0 = σ (TB t) 0 := by rw [hs]; unfold adT TB TR; rw [if_neg (by omega), if_neg (by omega)]
      have e1 : σ1 (TB t) 1 = σ (TB t) 1 := by rw [hs]; unfold adT; rw [if_pos ⟨rfl, rfl⟩]; omega
      refine g_iload1 X dX4_addTask_2 ?_
      refine g_aload0 X dX4_addTask_3 ?_
      refine gf_4_workers X (by omega) i4 (by decide +kernel) dX4_addTask_4 ?_
      refine g_icmp_ge (tgt := 28) X (by first | exact hRL2 _ _ | exact hR0 _ _ | assumption | (unfold InR; omega)) (by first | exact hRL2 _ _ | exact hR0 _ _ | assumption | (unfold InR; omega)) dX4_addTask_7 (by decide) (fun h7 => ?_) (fun h7 => ?_)
      · skip
        refine g_aload0 X dX4_addTask_28 ?_
        refine g_dup X dX4_addTask_29 rfl ?_
        refine gf_4_tasks X (by omega) i4 (by decide +kernel) dX4_addTask_30 ?_
        refine g_iconst X dX4_addTask_33 ?_
        refine g_iadd X dX4_addTask_34 ?_
        refine gp_4_tasks X (by omega) i4 (by decide +kernel) (by first | exact hRL2 _ _ | exact hR0 _ _ | assumption | (unfold InR; omega)) dX4_addTask_35 ?_
        refine g_rg (fun hR35 => ?_)
        exact g_vretW X hr (by
    rw [e1, hs, show j = σ (TB t) 0 by omega]
    funext q k
    simp only [up, adT, TB, TI, TC, TR, Int.add_zero, and_true, true_and]
    simp only [TB, TI, TC, TR] at *
    repeat' first | refine ite_l (fun h => ?_) (fun h => ?_) | refine ite_r (fun h => ?_) (fun h => ?_)
    all_goals first | omega | (refine st_c ?_ ?_ <;> omega) | (refine congrArg (fun x => x * f) (st_c ?_ ?_) <;> omega) | skip) dX4_addTask_38
      · skip
        refine g_aload0 X dX4_addTask_10 ?_
        refine gf_4_costs X (by omega) i4 (by decide +kernel) dX4_addTask_11 ?_
        refine g_iload1 X dX4_addTask_14 ?_
        refine g_aald_TC X (by omega) (by omega) dX4_addTask_15 ?_
        refine g_aload0 X dX4_addTask_16 ?_
        refine gf_4_tasks X (by omega) i4 (by decide +kernel) dX4_addTask_17 ?_
        refine g_iconst X dX4_addTask_20 ?_
        refine g_iast X (ia_TR (by omega) (by omega) (by omega)) (by first | exact hRL2 _ _ | exact hR0 _ _ | assumption | (unfold InR; omega)) dX4_addTask_21 ?_
        refine g_rg (fun hR21 => ?_)
        refine g_iinc1 X dX4_addTask_22 (by decide) (by first | exact Or.inl rfl | exact Or.inr ⟨_, rfl, rfl⟩) ?_
        refine g_goto (tgt := 2) X dX4_addTask_25 (by decide) ?_
        refine ih2 _ _ (by omega) ?_ ?_
        · omega
        · rw [e1, hs]
          funext q k
          simp only [up, adT, TB, TI, TC, TR, Int.add_zero, and_true, true_and]
          simp only [TB, TI, TC, TR] at *
          repeat' first | refine ite_l (fun h => ?_) (fun h => ?_) | refine ite_r (fun h => ?_) (fun h => ?_)
          all_goals first | omega | (refine st_c ?_ ?_ <;> omega) | (refine congrArg (fun x => x * f) (st_c ?_ ?_) <;> omega) | skip
  refine L2 _ _ _ (Nat.lt_succ_self _) ?_ ?_
  · omega
  · funext q k
    simp only [up, adT, TB, TI, TC, TR, Int.add_zero, and_true, true_and]
    simp only [TB, TI, TC, TR] at *
    repeat' first | refine ite_l (fun h => ?_) (fun h => ?_) | refine ite_r (fun h => ?_) (fun h => ?_)
    all_goals first | omega | (refine st_c ?_ ?_ <;> omega) | (refine congrArg (fun x => x * f) (st_c ?_ ?_) <;> omega) | skip

set_option maxHeartbeats 4000000 in
set_option maxRecDepth 100000 in
theorem k_X4_removeWorker (E0 : EV) {ad : Int → Nat} {σ : St} {t d : Int} (ht : 0 ≤ t ∧ t < 6) (hm : 0 ≤ σ (TB t) 0 ∧ σ (TB t) 0 ≤ 7) (hn : 0 ≤ σ (TB t) 1 ∧ σ (TB t) 1 ≤ 7) (hd : 0 ≤ d ∧ d < σ (TB t) 0) : MGE E0 yX4_removeWorker wsX4_removeWorker 0 0 ad σ [.ref (ad (TB t)), .int (iI d)] (PW (rmW σ t d (σ (TB t) 0 - 1) (σ (TB t) 0 - 1) 0)) := by
  refine MGE.of (cc := cX4_removeWorker) (maxL := 4) (ret := none) (own := RX4) [some (.ref (ad (TB t))), some (.int (iI d)), none, none] (by decide +kernel) rfl rfl (Nat.le_of_ble_eq_true rfl) rfl rfl (fun E X hr => ?_)
  have i4 : ∀ w ∈ wsX40, w ∈ wsX4_removeWorker := by decide +kernel
  refine g_rg (fun hR0 => ?_)
  refine g_aload0 X dX4_removeWorker_0 ?_
  refine g_dup X dX4_removeWorker_1 rfl ?_
  refine gf_4_workers X (by omega) i4 (by decide +kernel) dX4_removeWorker_2 ?_
  refine g_iconst X dX4_removeWorker_5 ?_
  refine g_isub X dX4_removeWorker_6 ?_
  refine gp_4_workers X (by omega) i4 (by decide +kernel) (by first | exact hR0 _ _ | assumption | (unfold InR; omega)) dX4_removeWorker_7 ?_
  refine g_rg (fun hR7 => ?_)
  refine g_iload1 X dX4_removeWorker_10 ?_
  refine g_istore2 X dX4_removeWorker_11 (by decide) (by first | exact Or.inl rfl | exact Or.inr ⟨_, rfl, rfl⟩) ?_
  have L12 : ∀ (n12 : Nat) (w : Int) (σ1 : St) (u3 : Option Value), (σ (TB t) 0 - 1 - w).toNat < n12 → (d ≤ w ∧ w ≤ σ (TB t) 0 - 1) → (σ1 = rmW σ t d w w 0) → WG E ad 4 σ1 12 [some (.ref (ad (TB t))), some (.int (iI d)), some (.int (iI w)), u3] [] := by
    intro n12
    induction n12 with
    | zero => intro w σ1 u3 hn; exact absurd hn (Nat.not_lt_zero _)
    | succ n12 ih12 =>
      intro w σ1 u3 hn12 hw hs
      refine g_rg (fun hRL12 => ?_)
      have e0 : σ1 (TB t) 0 = σ (TB t) 0 - 1 := by rw [hs]; unfold rmW; rw [if_pos ⟨rfl, rfl⟩]
      have e1 : σ1 (TB t) 1 = σ (TB t) 1 := by rw [hs]; unfold rmW TB TI TR; rw [if_neg (by omega), if_neg (by omega), if_neg (by omega), if_neg (by omega)]
      refine g_iload2 X dX4_removeWorker_12 ?_
      refine g_aload0 X dX4_removeWorker_13 ?_
      refine gf_4_workers X (by omega) i4 (by decide +kernel) dX4_removeWorker_14 ?_
      refine g_icmp_ge (tgt := 74) X (by first | exact hRL12 _ _ | exact hR7 _ _ | exact hR0 _ _ | assumption | (unfold InR; omega)) (by first | exact hRL12 _ _ | exact hR7 _ _ | exact hR0 _ _ | assumption | (unfold InR; omega)) dX4_removeWorker_17 (by decide) (fun h17 => ?_) (fun h17 => ?_)
      · skip
        exact g_vretW X hr (by rw [hs, show w = σ (TB t) 0 - 1 by omega]) dX4_removeWorker_74
      · skip
        refine g_aload0 X dX4_removeWorker_20 ?_
        refine gf_4_idleCosts X (by omega) i4 (by decide +kernel) dX4_removeWorker_21 ?_
        refine g_iload2 X dX4_removeWorker_24 ?_
        refine g_aload0 X dX4_removeWorker_25 ?_
        refine gf_4_idleCosts X (by omega) i4 (by decide +kernel) dX4_removeWorker_26 ?_
        refine g_iload2 X dX4_removeWorker_29 ?_
        refine g_iconst X dX4_removeWorker_30 ?_
        refine g_iadd X dX4_removeWorker_31 ?_
        refine g_iald X (ia_TI (by omega) (by omega)) dX4_removeWorker_32 ?_
        refine g_iast X (ia_TI (by omega) (by omega)) (by first | exact hRL12 _ _ | exact hR7 _ _ | exact hR0 _ _ | assumption | (unfold InR; omega)) dX4_removeWorker_33 ?_
        refine g_rg (fun hR33 => ?_)
        refine g_iconst X dX4_removeWorker_34 ?_
        refine g_istore3 X dX4_removeWorker_35 (by decide) (by first | exact Or.inl rfl | exact Or.inr ⟨_, rfl, rfl⟩) ?_
        have L36 : ∀ (n36 : Nat) (j : Int) (σ2 : St), (σ (TB t) 1 - j).toNat < n36 → (0 ≤ j ∧ j ≤ σ (TB t) 1) → (σ2 = rmW σ t d w (w + 1) j) → WG E ad 4 σ2 36 [some (.ref (ad (TB t))), some (.int (iI d)), some (.int (iI w)), some (.int (iI j))] [] := by
          intro n36
          induction n36 with
          | zero => intro j σ2 hn; exact absurd hn (Nat.not_lt_zero _)
          | succ n36 ih36 =>
            intro j σ2 hn36 hj hs2
            refine g_rg (fun hRL36 => ?_)
            have f0 : σ2 (TB t) 0 = σ (TB t) 0 - 1 := by rw [hs2]; unfold rmW; rw [if_pos ⟨rfl, rfl⟩]
            have f1 : σ2 (TB t) 1 = σ (TB t) 1 := by rw [hs2]; unfold rmW TB TI TR; rw [if_neg (by omega), if_neg (by omega), if_neg (by omega), if_neg (by omega)]
            refine g_iload3 X dX4_removeWorker_36 ?_
            refine g_aload0 X dX4_removeWorker_37 ?_
            refine gf_4_tasks X (by omega) i4 (by decide +kernel) dX4_removeWorker_38 ?_
            refine g_icmp_ge (tgt := 68) X (by first | exact hRL36 _ _ | exact hR33 _ _ | exact hRL12 _ _ | exact hR7 _ _ | exact hR0 _ _ | assumption | (unfold InR; omega)) (by first | exact hRL36 _ _ | exact hR33 _ _ | exact hRL12 _ _ | exact hR7 _ _ | exact hR0 _ _ | assumption | (unfold InR; omega)) dX4_removeWorker_41 (by decide) (fun h41 => ?_) (fun h41 => ?_)
            · skip
              refine g_iinc2 X dX4_removeWorker_68 (by decide) (by first | exact Or.inl rfl | exact Or.inr ⟨_, rfl, rfl⟩) ?_
              refine g_goto (tgt := 12) X dX4_removeWorker_71 (by decide) ?_
              refine ih12 _ _ _ (by omega) ?_ ?_
              · omega
              · rw [hs2, show j = σ (TB t) 1 by omega]
                funext q k
                simp only [up, rmW, TB, TI, TC, TR, Int.add_zero, and_true, true_and]
                simp only [TB, TI, TC, TR] at *
                repeat' first | refine ite_l (fun h => ?_) (fun h => ?_) | refine ite_r (fun h => ?_) (fun h => ?_)
                all_goals first | omega | (refine st_c ?_ ?_ <;> omega) | (refine congrArg (fun x => x * f) (st_c ?_ ?_) <;> omega) | skip
            · skip
              refine g_aload0 X dX4_removeWorker_44 ?_
              refine gf_4_costs X (by omega) i4 (by decide +kernel) dX4_removeWorker_45 ?_
              refine g_iload2 X dX4_removeWorker_48 ?_
              refine g_aald_TC X (by omega) (by omega) dX4_removeWorker_49 ?_
              refine g_iload3 X dX4_removeWorker_50 ?_
              refine g_aload0 X dX4_removeWorker_51 ?_
              refine gf_4_costs X (by omega) i4 (by decide +kernel) dX4_removeWorker_52 ?_
              refine g_iload2 X dX4_removeWorker_55 ?_
              refine g_iconst X dX4_removeWorker_56 ?_
              refine g_iadd X dX4_removeWorker_57 ?_
              refine g_aald_TC X (by omega) (by omega) dX4_removeWorker_58 ?_
              refine g_iload3 X dX4_removeWorker_59 ?_
              refine g_iald X (ia_TR (by omega) (by omega) (by omega)) dX4_removeWorker_60 ?_
              refine g_iast X (ia_TR (by omega) (by omega) (by omega)) (by first | exact hRL36 _ _ | exact hR33 _ _ | exact hRL12 _ _ | exact hR7 _ _ | exact hR0 _ _ | assumption | (unfold InR; omega)) dX4_removeWorker_61 ?_
              refine g_rg (fun hR61 => ?_)
              refine g_iinc3 X dX4_removeWorker_62 (by decide) (by first | exact Or.inl rfl | exact Or.inr ⟨_, rfl, rfl⟩) ?_
              refine g_goto (tgt := 36) X dX4_removeWorker_65 (by decide) ?_
              refine ih36 _ _ (by omega) ?_ ?_
              · omega
              · rw [hs2]
                funext q k
                simp only [up, rmW, TB, TI, TC, TR, Int.add_zero, and_true, true_and]
                simp only [TB, TI, TC, TR] at *
                repeat' first | refine ite_l (fun h => ?_) (fun h => ?_) | refine ite_r (fun h => ?_) (fun h => ?_)
                all_goals first | omega | (refine st_c ?_ ?_ <;> omega) | (refine congrArg (fun x => x * f) (st_c ?_ ?_) <;> omega) | skip
        refine L36 _ _ _ (Nat.lt_succ_self _) ?_ ?_
        · omega
        · rw [hs]
          funext q k
          simp only [up, rmW, TB, TI, TC, TR, Int.add_zero, and_true, true_and]
          simp only [TB, TI, TC, TR] at *
          repeat' first | refine ite_l (fun h => ?_) (fun h => ?_) | refine ite_r (fun h => ?_) (fun h => ?_)
          all_goals first | omega | (refine st_c ?_ ?_ <;> omega) | (refine congrArg (fun x => x * f) (st_c ?_ ?_) <;> omega) | skip
  refine L12 _ _ _ _ (Nat.lt_succ_self _) ?_ ?_
  · omega
  · funext q k
    simp only [up, rmW, TB, TI, TC, TR, Int.add_zero, and_true, true_and]
    simp only [TB, TI, TC, TR] at *
    repeat' first | refine ite_l (fun h => ?_) (fun h => ?_) | refine ite_r (fun h => ?_) (fun h => ?_)
    all_goals first | omega | (refine st_c ?_ ?_ <;> omega) | (refine congrArg (fun x => x * f) (st_c ?_ ?_) <;> omega) | skip

set_option maxHeartbeats 4000000 in
set_option maxRecDepth 100000 in
theorem k_X4_removeTask (E0 : EV) {ad : Int → Nat} {σ : St} {t d : Int} (ht : 0 ≤ t ∧ t < 6) (hm : 0 ≤ σ (TB t) 0 ∧ σ (TB t) 0 ≤ 7) (hn : 0 ≤ σ (TB t) 1 ∧ σ (TB t) 1 ≤ 7) (hd : 0 ≤ d ∧ d < σ (TB t) 1) : MGE E0 yX4_removeTask wsX4_removeTask 0 0 ad σ [.ref (ad (TB t)), .int (iI d)] (PW (rmT σ t d (σ (TB t) 0) d)) := by
  refine MGE.of (cc := cX4_removeTask) (maxL := 4) (ret := none) (own := RX4) [some (.ref (ad (TB t))), some (.int (iI d)), none, none] (by decide +kernel) rfl rfl (Nat.le_of_ble_eq_true rfl) rfl rfl (fun E X hr => ?_)
  have i4 : ∀ w ∈ wsX40, w ∈ wsX4_removeTask := by decide +kernel
  refine g_rg (fun hR0 => ?_)
  refine g_aload0 X dX4_removeTask_0 ?_
  refine g_dup X dX4_removeTask_1 rfl ?_
  refine gf_4_tasks X (by omega) i4 (by decide +kernel) dX4_removeTask_2 ?_
  refine g_iconst X dX4_removeTask_5 ?_
  refine g_isub X dX4_removeTask_6 ?_
  refine gp_4_tasks X (by omega) i4 (by decide +kernel) (by first | exact hR0 _ _ | assumption | (unfold InR; omega)) dX4_removeTask_7 ?_
  refine g_rg (fun hR7 => ?_)
  refine g_iconst X dX4_removeTask_10 ?_
  refine g_istore2 X dX4_removeTask_11 (by decide) (by first | exact Or.inl rfl | exact Or.inr ⟨_, rfl, rfl⟩) ?_
  have L12 : ∀ (n12 : Nat) (w : Int) (σ1 : St) (u3 : Option Value), (σ (TB t) 0 - w).toNat < n12 → (0 ≤ w ∧ w ≤ σ (TB t) 0) → (σ1 = rmT σ t d w d) → WG E ad 4 σ1 12 [some (.ref (ad (TB t))), some (.int (iI d)), some (.int (iI w)), u3] [] := by
    intro n12
    induction n12 with
    | zero => intro w σ1 u3 hn; exact absurd hn (Nat.not_lt_zero _)
    | succ n12 ih12 =>
      intro w σ1 u3 hn12 hw hs
      refine g_rg (fun hRL12 => ?_)
      have e1 : σ1 (TB t) 1 = σ (TB t) 1 - 1 := by rw [hs]; unfold rmT; rw [if_pos ⟨rfl, rfl⟩]
      have e0 : σ1 (TB t) 0 = σ (TB t) 0 := by rw [hs]; unfold rmT TB TR; rw [if_neg (by omega), if_neg (by omega), if_neg (by omega)]
      refine g_iload2 X dX4_removeTask_12 ?_
      refine g_aload0 X dX4_removeTask_13 ?_
      refine gf_4_workers X (by omega) i4 (by decide +kernel) dX4_removeTask_14 ?_
      refine g_icmp_ge (tgt := 60) X (by first | exact hRL12 _ _ | exact hR7 _ _ | exact hR0 _ _ | assumption | (unfold InR; omega)) (by first | exact hRL12 _ _ | exact hR7 _ _ | exact hR0 _ _ | assumption | (unfold InR; omega)) dX4_removeTask_17 (by decide) (fun h17 => ?_) (fun h17 => ?_)
      · skip
        exact g_vretW X hr (by rw [hs, show w = σ (TB t) 0 by omega]) dX4_removeTask_60
      · skip
        refine g_iload1 X dX4_removeTask_20 ?_
        refine g_istore3 X dX4_removeTask_21 (by decide) (by first | exact Or.inl rfl | exact Or.inr ⟨_, rfl, rfl⟩) ?_
        have L22 : ∀ (n22 : Nat) (j : Int) (σ2 : St), (σ (TB t) 1 - 1 - j).toNat < n22 → (d ≤ j ∧ j ≤ σ (TB t) 1 - 1) → (σ2 = rmT σ t d w j) → WG E ad 4 σ2 22 [some (.ref (ad (TB t))), some (.int (iI d)), some (.int (iI w)), some (.int (iI j))] [] := by
          intro n22
          induction n22 with
          | zero => intro j σ2 hn; exact absurd hn (Nat.not_lt_zero _)
          | succ n22 ih22 =>
            intro j σ2 hn22 hj hs2
            refine g_rg (fun hRL22 => ?_)
            have f1 : σ2 (TB t) 1 = σ (TB t) 1 - 1 := by rw [hs2]; unfold rmT; rw [if_pos ⟨rfl, rfl⟩]
            have f0 : σ2 (TB t) 0 = σ (TB t) 0 := by rw [hs2]; unfold rmT TB TR; rw [if_neg (by omega), if_neg (by omega), if_neg (by omega)]
            refine g_iload3 X dX4_removeTask_22 ?_
            refine g_aload0 X dX4_removeTask_23 ?_
            refine gf_4_tasks X (by omega) i4 (by decide +kernel) dX4_removeTask_24 ?_
            refine g_icmp_ge (tgt := 54) X (by first | exact hRL22 _ _ | exact hRL12 _ _ | exact hR7 _ _ | exact hR0 _ _ | assumption | (unfold InR; omega)) (by first | exact hRL22 _ _ | exact hRL12 _ _ | exact hR7 _ _ | exact hR0 _ _ | assumption | (unfold InR; omega)) dX4_removeTask_27 (by decide) (fun h27 => ?_) (fun h27 => ?_)
            · skip
              refine g_iinc2 X dX4_removeTask_54 (by decide) (by first | exact Or.inl rfl | exact Or.inr ⟨_, rfl, rfl⟩) ?_
              refine g_goto (tgt := 12) X dX4_removeTask_57 (by decide) ?_
              refine ih12 _ _ _ (by omega) ?_ ?_
              · omega
              · rw [hs2, show j = σ (TB t) 1 - 1 by omega]
                funext q k
                simp only [up, rmT, TB, TI, TC, TR, Int.add_zero, and_true, true_and]
                simp only [TB, TI, TC, TR] at *
                repeat' first | refine ite_l (fun h => ?_) (fun h => ?_) | refine ite_r (fun h => ?_) (fun h => ?_)
                all_goals first | omega | (refine st_c ?_ ?_ <;> omega) | (refine congrArg (fun x => x * f) (st_c ?_ ?_) <;> omega) | skip
            · skip
              refine g_aload0 X dX4_removeTask_30 ?_
              refine gf_4_costs X (by omega) i4 (by decide +kernel) dX4_removeTask_31 ?_
              refine g_iload2 X dX4_removeTask_34 ?_
              refine g_aald_TC X (by omega) (by omega) dX4_removeTask_35 ?_
              refine g_iload3 X dX4_removeTask_36 ?_
              refine g_aload0 X dX4_removeTask_37 ?_
              refine gf_4_costs X (by omega) i4 (by decide +kernel) dX4_removeTask_38 ?_
              refine g_iload2 X dX4_removeTask_41 ?_
              refine g_aald_TC X (by omega) (by omega) dX4_removeTask_42 ?_
              refine g_iload3 X dX4_removeTask_43 ?_
              refine g_iconst X dX4_removeTask_44 ?_
              refine g_iadd X dX4_removeTask_45 ?_
              refine g_iald X (ia_TR (by omega) (by omega) (by omega)) dX4_removeTask_46 ?_
              refine g_iast X (ia_TR (by omega) (by omega) (by omega)) (by first | exact hRL22 _ _ | exact hRL12 _ _ | exact hR7 _ _ | exact hR0 _ _ | assumption | (unfold InR; omega)) dX4_removeTask_47 ?_
              refine g_rg (fun hR47 => ?_)
              refine g_iinc3 X dX4_removeTask_48 (by decide) (by first | exact Or.inl rfl | exact Or.inr ⟨_, rfl, rfl⟩) ?_
              refine g_goto (tgt := 22) X dX4_removeTask_51 (by decide) ?_
              refine ih22 _ _ (by omega) ?_ ?_
              · omega
              · rw [hs2]
                funext q k
                simp only [up, rmT, TB, TI, TC, TR, Int.add_zero, and_true, true_and]
                simp only [TB, TI, TC, TR] at *
                repeat' first | refine ite_l (fun h => ?_) (fun h => ?_) | refine ite_r (fun h => ?_) (fun h => ?_)
                all_goals first | omega | (refine st_c ?_ ?_ <;> omega) | (refine congrArg (fun x => x * f) (st_c ?_ ?_) <;> omega) | skip
        refine L22 _ _ _ (Nat.lt_succ_self _) ?_ ?_
        · omega
        · exact hs
  refine L12 _ _ _ _ (Nat.lt_succ_self _) ?_ ?_
  · omega
  · funext q k
    simp only [up, rmT, TB, TI, TC, TR, Int.add_zero, and_true, true_and]
    simp only [TB, TI, TC, TR] at *
    repeat' first | refine ite_l (fun h => ?_) (fun h => ?_) | refine ite_r (fun h => ?_) (fun h => ?_)
    all_goals first | omega | (refine st_c ?_ ?_ <;> omega) | (refine congrArg (fun x => x * f) (st_c ?_ ?_) <;> omega) | skip

set_option maxHeartbeats 4000000 in
set_option maxRecDepth 100000 in
theorem k_X4_multiplyCosts (E0 : EV) {ad : Int → Nat} {σ : St} {t w f : Int} (ht : 0 ≤ t ∧ t < 6) (hw : 0 ≤ w ∧ w < 7) (hn : 0 ≤ σ (TB t) 1 ∧ σ (TB t) 1 ≤ 7) (hi0 : 0 ≤ σ (TI t) w * f ∧ σ (TI t) w * f ≤ 9999) (hc : ∀ j, 0 ≤ j → j < σ (TB t) 1 → σ (TR t w) j ≠ -1 → 0 ≤ σ (TR t w) j * f ∧ σ (TR t w) j * f ≤ 9999) : MGE E0 yX4_multiplyCosts wsX4_multiplyCosts 1 22 ad σ [.ref (ad (TB t)), .int (iI w), .int (iI f)] (PW (muC σ t w f (σ (TB t) 1))) := by
  refine MGE.of (cc := cX4_multiplyCosts) (maxL := 4) (ret := none) (own := RX4) [some (.ref (ad (TB t))), some (.int (iI w)), some (.int (iI f)), none] (by decide +kernel) rfl rfl (Nat.le_of_ble_eq_true rfl) rfl rfl (fun E X hr => ?_)
  have i4 : ∀ w ∈ wsX40, w ∈ wsX4_multiplyCosts := by decide +kernel
  refine g_rg (fun hR0 => ?_)
  refine g_aload0 X dX4_multiplyCosts_0 ?_
  refine gf_4_idleCosts X (by omega) i4 (by decide +kernel) dX4_multiplyCosts_1 ?_
  refine g_iload1 X dX4_multiplyCosts_4 ?_
  refine g_dup2 X dX4_multiplyCosts_5 rfl rfl ?_
  refine g_iald X (ia_TI (by omega) (by omega)) dX4_multiplyCosts_6 ?_
  refine g_iload2 X dX4_multiplyCosts_7 ?_
  refine g_imul X dX4_multiplyCosts_8 ?_
  refine g_iast X (ia_TI (by omega) (by omega)) (by first | exact hR0 _ _ | assumption | (unfold InR; omega)) dX4_multiplyCosts_9 ?_
  refine g_rg (fun hR9 => ?_)
  refine g_iconst X dX4_multiplyCosts_10 ?_
  refine g_istore3 X dX4_multiplyCosts_11 (by decide) (by first | exact Or.inl rfl | exact Or.inr ⟨_, rfl, rfl⟩) ?_
  have L12 : ∀ (n12 : Nat) (j : Int) (σ1 : St), (σ (TB t) 1 - j).toNat < n12 → (0 ≤ j ∧ j ≤ σ (TB t) 1) → (σ1 = muC σ t w f j) → WG E ad 4 σ1 12 [some (.ref (ad (TB t))), some (.int (iI w)), some (.int (iI f)), some (.int (iI j))] [] := by
    intro n12
    induction n12 with
    | zero => intro j σ1 hn; exact absurd hn (Nat.not_lt_zero _)
    | succ n12 ih12 =>
      intro j σ1 hn12 hj hs
      refine g_rg (fun hRL12 => ?_)
      have e1 : σ1 (TB t) 1 = σ (TB t) 1 := by rw [hs]; unfold muC TB TI TR; rw [if_neg (by omega), if_neg (by omega)]
      have e2 : σ1 (TR t w) j = σ (TR t w) j := by rw [hs]; unfold muC TI TR; rw [if_neg (by omega), if_neg (by omega)]
      refine g_iload3 X dX4_multiplyCosts_12 ?_
      refine g_aload0 X dX4_multiplyCosts_13 ?_
      refine gf_4_tasks X (by omega) i4 (by decide +kernel) dX4_multiplyCosts_14 ?_
      refine g_icmp_ge (tgt := 47) X (by first | exact hRL12 _ _ | exact hR9 _ _ | exact hR0 _ _ | assumption | (unfold InR; omega)) (by first | exact hRL12 _ _ | exact hR9 _ _ | exact hR0 _ _ | assumption | (unfold InR; omega)) dX4_multiplyCosts_17 (by decide) (fun h17 => ?_) (fun h17 => ?_)
      · skip
        exact g_vretW X hr (by rw [hs, show j = σ (TB t) 1 by omega]) dX4_multiplyCosts_47
      · skip
        refine g_aload0 X dX4_multiplyCosts_20 ?_
        refine g_iload1 X dX4_multiplyCosts_21 ?_
        refine g_iload3 X dX4_multiplyCosts_22 ?_
        refine g_F2 X (k_X4_isBarred E (by omega) (by omega) (by omega)) gX4_multiplyCosts_X4_isBarred rfl (by decide +kernel) (by decide) (ob_TB (by omega)) (Nat.le_of_ble_eq_true rfl) dX4_multiplyCosts_23 (fun hz23 => ?_)
        refine g_rg (fun hR23 => ?_)
        have hb1 := isB_01 σ1 t w j
        refine g_if_ne (tgt := 41) X (by first | exact hR23 _ _ | exact hRL12 _ _ | exact hR9 _ _ | exact hR0 _ _ | assumption | (unfold InR; omega)) dX4_multiplyCosts_26 (by decide) (fun h26 => ?_) (fun h26 => ?_)
        · skip
          refine g_iinc3 X dX4_multiplyCosts_41 (by decide) (by first | exact Or.inl rfl | exact Or.inr ⟨_, rfl, rfl⟩) ?_
          refine g_goto (tgt := 12) X dX4_multiplyCosts_44 (by decide) ?_
          refine ih12 _ _ (by omega) ?_ ?_
          · omega
          · first | rw [e2, hs] | rw [hs]
            funext q k
            by_cases hk : k = j
            · subst hk
              simp only [up, muC, TB, TI, TC, TR, Int.add_zero, and_true, true_and]
              simp only [TB, TI, TC, TR] at *
              repeat' first | refine ite_l (fun h => ?_) (fun h => ?_) | refine ite_r (fun h => ?_) (fun h => ?_)
              all_goals first | omega | (refine st_c ?_ ?_ <;> omega) | (refine congrArg (fun x => x * f) (st_c ?_ ?_) <;> omega) | skip
            · simp only [up, muC, TB, TI, TC, TR, Int.add_zero, and_true, true_and]
              simp only [TB, TI, TC, TR] at *
              repeat' first | refine ite_l (fun h => ?_) (fun h => ?_) | refine ite_r (fun h => ?_) (fun h => ?_)
              all_goals first | omega | (refine st_c ?_ ?_ <;> omega) | (refine congrArg (fun x => x * f) (st_c ?_ ?_) <;> omega) | skip
        · skip
          have hc9 := hc j (by omega) (by omega) (by omega)
          rw [← e2] at hc9
          refine g_aload0 X dX4_multiplyCosts_29 ?_
          refine gf_4_costs X (by omega) i4 (by decide +kernel) dX4_multiplyCosts_30 ?_
          refine g_iload1 X dX4_multiplyCosts_33 ?_
          refine g_aald_TC X (by omega) (by omega) dX4_multiplyCosts_34 ?_
          refine g_iload3 X dX4_multiplyCosts_35 ?_
          refine g_dup2 X dX4_multiplyCosts_36 rfl rfl ?_
          refine g_iald X (ia_TR (by omega) (by omega) (by omega)) dX4_multiplyCosts_37 ?_
          refine g_iload2 X dX4_multiplyCosts_38 ?_
          refine g_imul X dX4_multiplyCosts_39 ?_
          refine g_iast X (ia_TR (by omega) (by omega) (by omega)) (by first | exact hR23 _ _ | exact hRL12 _ _ | exact hR9 _ _ | exact hR0 _ _ | assumption | (unfold InR; omega)) dX4_multiplyCosts_40 ?_
          refine g_rg (fun hR40 => ?_)
          refine g_iinc3 X dX4_multiplyCosts_41 (by decide) (by first | exact Or.inl rfl | exact Or.inr ⟨_, rfl, rfl⟩) ?_
          refine g_goto (tgt := 12) X dX4_multiplyCosts_44 (by decide) ?_
          refine ih12 _ _ (by omega) ?_ ?_
          · omega
          · first | rw [e2, hs] | rw [hs]
            funext q k
            by_cases hk : k = j
            · subst hk
              simp only [up, muC, TB, TI, TC, TR, Int.add_zero, and_true, true_and]
              simp only [TB, TI, TC, TR] at *
              repeat' first | refine ite_l (fun h => ?_) (fun h => ?_) | refine ite_r (fun h => ?_) (fun h => ?_)
              all_goals first | omega | (refine st_c ?_ ?_ <;> omega) | (refine congrArg (fun x => x * f) (st_c ?_ ?_) <;> omega) | skip
            · simp only [up, muC, TB, TI, TC, TR, Int.add_zero, and_true, true_and]
              simp only [TB, TI, TC, TR] at *
              repeat' first | refine ite_l (fun h => ?_) (fun h => ?_) | refine ite_r (fun h => ?_) (fun h => ?_)
              all_goals first | omega | (refine st_c ?_ ?_ <;> omega) | (refine congrArg (fun x => x * f) (st_c ?_ ?_) <;> omega) | skip
  refine L12 _ _ _ (Nat.lt_succ_self _) ?_ ?_
  · omega
  · funext q k
    simp only [up, muC, TB, TI, TC, TR, Int.add_zero, and_true, true_and]
    simp only [TB, TI, TC, TR] at *
    repeat' first | refine ite_l (fun h => ?_) (fun h => ?_) | refine ite_r (fun h => ?_) (fun h => ?_)
    all_goals first | omega | (refine st_c ?_ ?_ <;> omega) | (refine congrArg (fun x => x * f) (st_c ?_ ?_) <;> omega) | skip
