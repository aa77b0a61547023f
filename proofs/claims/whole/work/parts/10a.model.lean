/-! MY CONTRACTS: the reference's small methods and its least totals -/
def MT (g : Int → Int) : Prop := (0 ≤ g 0 ∧ g 0 ≤ 7) ∧ (0 ≤ g 1 ∧ g 1 ≤ 7) ∧ (∀ k, 0 ≤ k → k < 7 → 0 ≤ g (2 + k) ∧ g (2 + k) ≤ 9999) ∧ ∀ w t, 0 ≤ w → w < 7 → 0 ≤ t → t < 7 → -1 ≤ g (9 + 7 * w + t) ∧ g (9 + 7 * w + t) ≤ 9999
def cM (σ : St) (w t : Int) : Int := σ 80 (9 + 7 * w + t)
def dM (σ : St) (w : Int) : Int := σ 80 (2 + w)
def inB (v l u : Int) : Int := if l ≤ v ∧ v ≤ u then 1 else 0
def mW (σ : St) (w : Int) : Int := if 0 ≤ w ∧ w < σ 80 0 then 1 else 0
def mK (σ : St) (w : Int) : Int := if 0 ≤ w ∧ w < σ 80 1 then 1 else 0
theorem inB_01 (v l u : Int) : (inB v l u = 1 ∧ l ≤ v ∧ v ≤ u) ∨ (inB v l u = 0 ∧ ¬ (l ≤ v ∧ v ≤ u)) := if01
theorem mW_01 (σ : St) (w : Int) : (mW σ w = 1 ∧ 0 ≤ w ∧ w < σ 80 0) ∨ (mW σ w = 0 ∧ ¬ (0 ≤ w ∧ w < σ 80 0)) := if01
theorem mK_01 (σ : St) (w : Int) : (mK σ w = 1 ∧ 0 ≤ w ∧ w < σ 80 1) ∨ (mK σ w = 0 ∧ ¬ (0 ≤ w ∧ w < σ 80 1)) := if01
def cHt (σ : St) (t : Int) : Int := if t = 7 then σ 79 6 else t
def cH (σ : St) (w t : Int) : Int := if w = σ 79 7 ∧ t = σ 79 8 then -1 else cM σ w (cHt σ t)
def la (a b : Int) : Int := ((a.toNat &&& b.toNat : Nat) : Int)
theorem b_land {a b : Int} (ha : 0 ≤ a ∧ a < 256) (hb : 0 ≤ b ∧ b < 256) : iI a &&& iI b = iI (la a b) := by
  obtain ⟨n, rfl⟩ := Int.eq_ofNat_of_zero_le ha.1
  obtain ⟨k, rfl⟩ := Int.eq_ofNat_of_zero_le hb.1
  apply Int32.toBitVec_inj.mp
  apply BitVec.eq_of_toNat_eq
  have h1 : n &&& k ≤ n := Nat.and_le_left
  show ((iI (n : Int)).toBitVec &&& (iI (k : Int)).toBitVec).toNat = _
  rw [BitVec.toNat_and, iI_bv, iI_bv, iI_bv, BitVec.toNat_ofInt, BitVec.toNat_ofInt, BitVec.toNat_ofInt]
  unfold la
  rw [Int.toNat_natCast, Int.toNat_natCast]
  have e1 : (((n : Int) % ((2 ^ 32 : Nat) : Int)).toNat) = n := by omega
  have e2 : (((k : Int) % ((2 ^ 32 : Nat) : Int)).toNat) = k := by omega
  have e3 : ((((n &&& k : Nat) : Int) % ((2 ^ 32 : Nat) : Int)).toNat) = (n &&& k) := by omega
  rw [e1, e2, e3]
theorem la_b {a b : Int} (ha : 0 ≤ a ∧ a < 256) : 0 ≤ la a b ∧ la a b < 256 := by
  have h1 : a.toNat &&& b.toNat ≤ a.toNat := Nat.and_le_left
  unfold la
  omega
def hsB (tk k t : Int) : Int := bt (la tk k) t
theorem bt_tb (a : Nat) (t : Nat) : bt (a : Int) (t : Int) = 1 ↔ a.testBit t = true := by
  rw [Nat.testBit_eq_decide_div_mod_eq]
  have e : p2 (t : Int) = ((2 ^ t : Nat) : Int) := by
    unfold p2
    rw [Int.toNat_natCast]
    simp
  unfold bt
  rw [e, ← Int.natCast_ediv]
  have : ((a / 2 ^ t : Nat) : Int) % 2 = ((a / 2 ^ t % 2 : Nat) : Int) := by omega
  rw [this]
  simp only [decide_eq_true_eq]
  omega
theorem hsB_1 {tk k t : Int} (h1 : 0 ≤ tk) (h2 : 0 ≤ k) (h3 : 0 ≤ t) : hsB tk k t = 1 ↔ bt tk t = 1 ∧ bt k t = 1 := by
  obtain ⟨a, rfl⟩ := Int.eq_ofNat_of_zero_le h1
  obtain ⟨b, rfl⟩ := Int.eq_ofNat_of_zero_le h2
  obtain ⟨c, rfl⟩ := Int.eq_ofNat_of_zero_le h3
  unfold hsB la
  rw [Int.toNat_natCast, Int.toNat_natCast, bt_tb, bt_tb, bt_tb, Nat.testBit_and]
  simp
/-- the reference's table of least totals by sets of tasks that have been used, after its first i workers -/
def gS (σ : St) (wk tk : Int) : Nat → Int → Int
  | 0, k => if k = 0 then 0 else 1000000
  | i + 1, k => if bt wk i = 1 then FI (fun a t => if hsB tk k t = 1 ∧ 0 ≤ cH σ i t ∧ gS σ wk tk i (k - p2 t) + cH σ i t < a then gS σ wk tk i (k - p2 t) + cH σ i t else a) (gS σ wk tk i k + dM σ i) 8 else gS σ wk tk i k
def lfV (σ : St) (wk tk : Int) : Int := FI (fun a k => if gS σ wk tk (σ 80 0).toNat k < a then gS σ wk tk (σ 80 0).toNat k else a) 1000000 256
def bsS (σ : St) (wk tk : Int) (i : Nat) (k t : Int) : Int := FI (fun a t => if hsB tk k t = 1 ∧ 0 ≤ cH σ i t ∧ gS σ wk tk i (k - p2 t) + cH σ i t < a then gS σ wk tk i (k - p2 t) + cH σ i t else a) (gS σ wk tk i k + dM σ i) t
theorem bsS_s {σ : St} {wk tk : Int} {i : Nat} {k t : Int} (h : 0 ≤ t) : bsS σ wk tk i k (t + 1) = if hsB tk k t = 1 ∧ 0 ≤ cH σ i t ∧ gS σ wk tk i (k - p2 t) + cH σ i t < bsS σ wk tk i k t then gS σ wk tk i (k - p2 t) + cH σ i t else bsS σ wk tk i k t := FI_s h
theorem gS_1 {σ : St} {wk tk : Int} {i : Nat} {k : Int} (h : bt wk i = 1) : gS σ wk tk (i + 1) k = bsS σ wk tk i k 8 := by
  rw [gS, if_pos h]; rfl
theorem gS_0 {σ : St} {wk tk : Int} {i : Nat} {k : Int} (h : bt wk i ≠ 1) : gS σ wk tk (i + 1) k = gS σ wk tk i k := by
  rw [gS, if_neg h]
theorem cH_b {σ : St} (hM : MT (σ 80)) {w t : Int} (hw : 0 ≤ w ∧ w < 7) (ht : 0 ≤ t ∧ t ≤ 7) (ha : t = 7 → 0 ≤ σ 79 6 ∧ σ 79 6 < 7) : -1 ≤ cH σ w t ∧ cH σ w t ≤ 9999 := by
  unfold cH
  by_cases h : w = σ 79 7 ∧ t = σ 79 8
  · rw [if_pos h]; omega
  · rw [if_neg h]
    unfold cHt cM
    by_cases h7 : t = 7
    · rw [if_pos h7]; have := ha h7; exact hM.2.2.2 w _ hw.1 hw.2 this.1 this.2
    · rw [if_neg h7]; exact hM.2.2.2 w t hw.1 hw.2 ht.1 (by omega)
theorem gS_b {σ : St} (hM : MT (σ 80)) {wk tk : Int} : ∀ (i : Nat), i ≤ 7 → ∀ k, 0 ≤ gS σ wk tk i k ∧ gS σ wk tk i k ≤ 1000000 + 9999 * i := by
  intro i
  induction i with
  | zero => intro _ k; rw [gS]; by_cases h : k = 0; { rw [if_pos h]; omega }; { rw [if_neg h]; omega }
  | succ i ih =>
    intro hi k
    have ih' := ih (by omega)
    by_cases hb : bt wk i = 1
    · rw [gS_1 hb]
      have hd := hM.2.2.1 i (by omega) (by omega)
      have key : ∀ n : Nat, 0 ≤ bsS σ wk tk i k n ∧ bsS σ wk tk i k n ≤ 1000000 + 9999 * ((i + 1 : Nat) : Int) := by
        intro n
        induction n with
        | zero => have h0 := ih' k; show 0 ≤ gS σ wk tk i k + dM σ i ∧ gS σ wk tk i k + dM σ i ≤ _; unfold dM; omega
        | succ n ihn =>
          have e : ((n + 1 : Nat) : Int) = (n : Int) + 1 := by omega
          rw [e, bsS_s (by omega)]
          have h1 := ih' (k - p2 n)
          by_cases hc : hsB tk k n = 1 ∧ 0 ≤ cH σ i n ∧ gS σ wk tk i (k - p2 n) + cH σ i n < bsS σ wk tk i k n
          · rw [if_pos hc]; omega
          · rw [if_neg hc]; exact ihn
      exact key 8
    · rw [gS_0 hb]; have := ih' k; omega
def F83 (σ σ' : St) : Prop := ∀ q k, q ≠ 83 → σ' q k = σ q k
theorem cH_F {σ σ' : St} (h : F83 σ σ') (w t : Int) : cH σ' w t = cH σ w t := by
  unfold cH cHt cM
  rw [h 79 7 (by omega), h 79 8 (by omega), h 79 6 (by omega), h 80 _ (by omega)]
theorem bt_le {k t : Int} (hk : 0 ≤ k) (ht : 0 ≤ t ∧ t ≤ 8) (h : bt k t = 1) : p2 t ≤ k := by
  have h1 := p2_k (k := t) ht
  unfold bt at h
  by_cases h2 : p2 t ≤ k
  · exact h2
  · rw [Int.ediv_eq_zero_of_lt hk (by omega)] at h
    omega
def fnS (σ : St) (wk tk i : Int) : Int := FI (fun a k => if gS σ wk tk (σ 80 0).toNat k < a then gS σ wk tk (σ 80 0).toNat k else a) 1000000 i
theorem fnS_s {σ : St} {wk tk i : Int} (h : 0 ≤ i) : fnS σ wk tk (i + 1) = if gS σ wk tk (σ 80 0).toNat i < fnS σ wk tk i then gS σ wk tk (σ 80 0).toNat i else fnS σ wk tk i := FI_s h
set_option maxHeartbeats 4000000 in
set_option maxRecDepth 100000 in
theorem k_X7_in (E0 : EV) {ad : Int → Nat} {σ : St} {v l u : Int} (hv : InR v) (hl : InR l) (hu : InR u) : MGE E0 yX7_in wsX7_in 0 0 ad σ [.int (iI v), .int (iI l), .int (iI u)] (PF (inB v l u) σ) := by
  refine MGE.of (cc := cX7_in) (maxL := 3) (ret := (some .boolean)) (own := RX7) [some (.int (iI v)), some (.int (iI l)), some (.int (iI u))] (by decide +kernel) rfl rfl (Nat.le_of_ble_eq_true rfl) rfl rfl (fun E X hr => ?_)
  refine g_rg (fun hR0 => ?_)
  refine g_iload0 X dX7_in_0 ?_
  refine g_iload1 X dX7_in_1 ?_
  refine g_icmp_lt (tgt := 14) X (by first | exact hR0 _ _ | assumption | (unfold InR; omega)) (by first | exact hR0 _ _ | assumption | (unfold InR; omega)) dX7_in_2 (by decide) (fun h2 => ?_) (fun h2 => ?_)
  · skip
    refine g_iconst X dX7_in_14 ?_
    exact g_zretF X hr (by first | exact Or.inl rfl | exact Or.inr rfl | omega) ⟨(by unfold inB; repeat (first | rw [if_pos (by omega)] | rw [if_neg (by omega)]); all_goals omega), rfl⟩ dX7_in_15
  · skip
    refine g_iload0 X dX7_in_5 ?_
    refine g_iload2 X dX7_in_6 ?_
    refine g_icmp_gt (tgt := 14) X (by first | exact hR0 _ _ | assumption | (unfold InR; omega)) (by first | exact hR0 _ _ | assumption | (unfold InR; omega)) dX7_in_7 (by decide) (fun h7 => ?_) (fun h7 => ?_)
    · skip
      refine g_iconst X dX7_in_14 ?_
      exact g_zretF X hr (by first | exact Or.inl rfl | exact Or.inr rfl | omega) ⟨(by unfold inB; repeat (first | rw [if_pos (by omega)] | rw [if_neg (by omega)]); all_goals omega), rfl⟩ dX7_in_15
    · skip
      refine g_iconst X dX7_in_10 ?_
      refine g_goto (tgt := 15) X dX7_in_11 (by decide) ?_
      exact g_zretF X hr (by first | exact Or.inl rfl | exact Or.inr rfl | omega) ⟨(by unfold inB; repeat (first | rw [if_pos (by omega)] | rw [if_neg (by omega)]); all_goals omega), rfl⟩ dX7_in_15

set_option maxHeartbeats 4000000 in
set_option maxRecDepth 100000 in
theorem k_X7_isWorker (E0 : EV) {ad : Int → Nat} {σ : St} {w : Int} (hM : MT (σ 80)) (hx : InR w) : MGE E0 yX7_isWorker wsX7_isWorker 0 0 ad σ [.ref (ad 79), .int (iI w)] (PF (mW σ w) σ) := by
  refine MGE.of (cc := cX7_isWorker) (maxL := 2) (ret := (some .boolean)) (own := RX7) [some (.ref (ad 79)), some (.int (iI w))] (by decide +kernel) rfl rfl (Nat.le_of_ble_eq_true rfl) rfl rfl (fun E X hr => ?_)
  have i7 : ∀ w ∈ wsX70, w ∈ wsX7_isWorker := by decide +kernel
  refine g_rg (fun hR0 => ?_)
  refine g_iload1 X dX7_isWorker_0 ?_
  refine g_if_lt (tgt := 18) X (by first | exact hR0 _ _ | assumption | (unfold InR; omega)) dX7_isWorker_1 (by decide) (fun h1 => ?_) (fun h1 => ?_)
  · skip
    refine g_iconst X dX7_isWorker_18 ?_
    exact g_zretF X hr (by first | exact Or.inl rfl | exact Or.inr rfl | omega) ⟨(by unfold mW; repeat (first | rw [if_pos (by omega)] | rw [if_neg (by omega)]); all_goals omega), rfl⟩ dX7_isWorker_19
  · skip
    refine g_iload1 X dX7_isWorker_4 ?_
    refine g_aload0 X dX7_isWorker_5 ?_
    refine gf_7_s X i7 (by decide +kernel) dX7_isWorker_6 ?_
    refine g_iconst X dX7_isWorker_9 ?_
    refine g_iald X (ia_80 (by omega)) dX7_isWorker_10 ?_
    refine g_icmp_ge (tgt := 18) X (by first | exact hR0 _ _ | assumption | (unfold InR; omega)) (by first | exact hR0 _ _ | assumption | (unfold InR; omega)) dX7_isWorker_11 (by decide) (fun h11 => ?_) (fun h11 => ?_)
    · skip
      refine g_iconst X dX7_isWorker_18 ?_
      exact g_zretF X hr (by first | exact Or.inl rfl | exact Or.inr rfl | omega) ⟨(by unfold mW; repeat (first | rw [if_pos (by omega)] | rw [if_neg (by omega)]); all_goals omega), rfl⟩ dX7_isWorker_19
    · skip
      refine g_iconst X dX7_isWorker_14 ?_
      refine g_goto (tgt := 19) X dX7_isWorker_15 (by decide) ?_
      exact g_zretF X hr (by first | exact Or.inl rfl | exact Or.inr rfl | omega) ⟨(by unfold mW; repeat (first | rw [if_pos (by omega)] | rw [if_neg (by omega)]); all_goals omega), rfl⟩ dX7_isWorker_19

set_option maxHeartbeats 4000000 in
set_option maxRecDepth 100000 in
theorem k_X7_isTask (E0 : EV) {ad : Int → Nat} {σ : St} {w : Int} (hM : MT (σ 80)) (hx : InR w) : MGE E0 yX7_isTask wsX7_isTask 0 0 ad σ [.ref (ad 79), .int (iI w)] (PF (mK σ w) σ) := by
  refine MGE.of (cc := cX7_isTask) (maxL := 2) (ret := (some .boolean)) (own := RX7) [some (.ref (ad 79)), some (.int (iI w))] (by decide +kernel) rfl rfl (Nat.le_of_ble_eq_true rfl) rfl rfl (fun E X hr => ?_)
  have i7 : ∀ w ∈ wsX70, w ∈ wsX7_isTask := by decide +kernel
  refine g_rg (fun hR0 => ?_)
  refine g_iload1 X dX7_isTask_0 ?_
  refine g_if_lt (tgt := 18) X (by first | exact hR0 _ _ | assumption | (unfold InR; omega)) dX7_isTask_1 (by decide) (fun h1 => ?_) (fun h1 => ?_)
  · skip
    refine g_iconst X dX7_isTask_18 ?_
    exact g_zretF X hr (by first | exact Or.inl rfl | exact Or.inr rfl | omega) ⟨(by unfold mK; repeat (first | rw [if_pos (by omega)] | rw [if_neg (by omega)]); all_goals omega), rfl⟩ dX7_isTask_19
  · skip
    refine g_iload1 X dX7_isTask_4 ?_
    refine g_aload0 X dX7_isTask_5 ?_
    refine gf_7_s X i7 (by decide +kernel) dX7_isTask_6 ?_
    refine g_iconst X dX7_isTask_9 ?_
    refine g_iald X (ia_80 (by omega)) dX7_isTask_10 ?_
    refine g_icmp_ge (tgt := 18) X (by first | exact hR0 _ _ | assumption | (unfold InR; omega)) (by first | exact hR0 _ _ | assumption | (unfold InR; omega)) dX7_isTask_11 (by decide) (fun h11 => ?_) (fun h11 => ?_)
    · skip
      refine g_iconst X dX7_isTask_18 ?_
      exact g_zretF X hr (by first | exact Or.inl rfl | exact Or.inr rfl | omega) ⟨(by unfold mK; repeat (first | rw [if_pos (by omega)] | rw [if_neg (by omega)]); all_goals omega), rfl⟩ dX7_isTask_19
    · skip
      refine g_iconst X dX7_isTask_14 ?_
      refine g_goto (tgt := 19) X dX7_isTask_15 (by decide) ?_
      exact g_zretF X hr (by first | exact Or.inl rfl | exact Or.inr rfl | omega) ⟨(by unfold mK; repeat (first | rw [if_pos (by omega)] | rw [if_neg (by omega)]); all_goals omega), rfl⟩ dX7_isTask_19

set_option maxHeartbeats 4000000 in
set_option maxRecDepth 100000 in
theorem k_X7_of (E0 : EV) {ad : Int → Nat} {σ : St} {w t : Int} (hw : 0 ≤ w ∧ w < 7) (ht : 0 ≤ t ∧ t < 7) : MGE E0 yX7_of wsX7_of 0 0 ad σ [.ref (ad 79), .int (iI w), .int (iI t)] (PF (cM σ w t) σ) := by
  refine MGE.of (cc := cX7_of) (maxL := 3) (ret := (some .int)) (own := RX7) [some (.ref (ad 79)), some (.int (iI w)), some (.int (iI t))] (by decide +kernel) rfl rfl (Nat.le_of_ble_eq_true rfl) rfl rfl (fun E X hr => ?_)
  have i7 : ∀ w ∈ wsX70, w ∈ wsX7_of := by decide +kernel
  refine g_rg (fun hR0 => ?_)
  refine g_aload0 X dX7_of_0 ?_
  refine gf_7_s X i7 (by decide +kernel) dX7_of_1 ?_
  refine g_bipush X dX7_of_4 (by decide +kernel) ?_
  refine g_bipush X dX7_of_6 (by decide +kernel) ?_
  refine g_iload1 X dX7_of_8 ?_
  refine g_imul X dX7_of_9 ?_
  refine g_iadd X dX7_of_10 ?_
  refine g_iload2 X dX7_of_11 ?_
  refine g_iadd X dX7_of_12 ?_
  refine g_iald X (ia_80 (by omega)) dX7_of_13 ?_
  exact g_iretF X hr (by first | exact hR0 _ _ | assumption | (unfold InR; omega)) ⟨rfl, rfl⟩ dX7_of_14

set_option maxHeartbeats 4000000 in
set_option maxRecDepth 100000 in
theorem k_X7_allWorkers (E0 : EV) {ad : Int → Nat} {σ : St} (hM : MT (σ 80)) : MGE E0 yX7_allWorkers wsX7_allWorkers 0 0 ad σ [.ref (ad 79)] (PF (p2 (σ 80 0) - 1) σ) := by
  refine MGE.of (cc := cX7_allWorkers) (maxL := 1) (ret := (some .int)) (own := RX7) [some (.ref (ad 79))] (by decide +kernel) rfl rfl (Nat.le_of_ble_eq_true rfl) rfl rfl (fun E X hr => ?_)
  have i7 : ∀ w ∈ wsX70, w ∈ wsX7_allWorkers := by decide +kernel
  refine g_rg (fun hR0 => ?_)
  have h0 := hM.1
  have h1 := hM.2.1
  have hp := p2_n (n := σ 80 0) (by omega)
  refine g_iconst X dX7_allWorkers_0 ?_
  refine g_aload0 X dX7_allWorkers_1 ?_
  refine gf_7_s X i7 (by decide +kernel) dX7_allWorkers_2 ?_
  refine g_iconst X dX7_allWorkers_5 ?_
  refine g_iald X (ia_80 (by omega)) dX7_allWorkers_6 ?_
  refine g_ishl X (b_shl (by omega)) dX7_allWorkers_7 ?_
  refine g_iconst X dX7_allWorkers_8 ?_
  refine g_isub X dX7_allWorkers_9 ?_
  exact g_iretF X hr (by first | exact hR0 _ _ | assumption | (unfold InR; omega)) ⟨rfl, rfl⟩ dX7_allWorkers_10

set_option maxHeartbeats 4000000 in
set_option maxRecDepth 100000 in
theorem k_X7_allTasks (E0 : EV) {ad : Int → Nat} {σ : St} (hM : MT (σ 80)) : MGE E0 yX7_allTasks wsX7_allTasks 0 0 ad σ [.ref (ad 79)] (PF (p2 (σ 80 1) - 1) σ) := by
  refine MGE.of (cc := cX7_allTasks) (maxL := 1) (ret := (some .int)) (own := RX7) [some (.ref (ad 79))] (by decide +kernel) rfl rfl (Nat.le_of_ble_eq_true rfl) rfl rfl (fun E X hr => ?_)
  have i7 : ∀ w ∈ wsX70, w ∈ wsX7_allTasks := by decide +kernel
  refine g_rg (fun hR0 => ?_)
  have h0 := hM.1
  have h1 := hM.2.1
  have hp := p2_n (n := σ 80 1) (by omega)
  refine g_iconst X dX7_allTasks_0 ?_
  refine g_aload0 X dX7_allTasks_1 ?_
  refine gf_7_s X i7 (by decide +kernel) dX7_allTasks_2 ?_
  refine g_iconst X dX7_allTasks_5 ?_
  refine g_iald X (ia_80 (by omega)) dX7_allTasks_6 ?_
  refine g_ishl X (b_shl (by omega)) dX7_allTasks_7 ?_
  refine g_iconst X dX7_allTasks_8 ?_
  refine g_isub X dX7_allTasks_9 ?_
  exact g_iretF X hr (by first | exact hR0 _ _ | assumption | (unfold InR; omega)) ⟨rfl, rfl⟩ dX7_allTasks_10

set_option maxHeartbeats 4000000 in
set_option maxRecDepth 100000 in
theorem k_X7_costHere (E0 : EV) {ad : Int → Nat} {σ : St} {w t : Int} (hw : 0 ≤ w ∧ w < 7) (ht : 0 ≤ t ∧ t ≤ 7) (ha : t = 7 → 0 ≤ σ 79 6 ∧ σ 79 6 < 7) : MGE E0 yX7_costHere wsX7_costHere 1 22 ad σ [.ref (ad 79), .int (iI w), .int (iI t)] (PF (cH σ w t) σ) := by
  refine MGE.of (cc := cX7_costHere) (maxL := 3) (ret := (some .int)) (own := RX7) [some (.ref (ad 79)), some (.int (iI w)), some (.int (iI t))] (by decide +kernel) rfl rfl (Nat.le_of_ble_eq_true rfl) rfl rfl (fun E X hr => ?_)
  have i7 : ∀ w ∈ wsX70, w ∈ wsX7_costHere := by decide +kernel
  refine g_rg (fun hR0 => ?_)
  have J36 : ∀ v : Int, v = cHt σ t → ¬ (w = σ 79 7 ∧ t = σ 79 8) → WG E ad 3 σ 36 [some (.ref (ad 79)), some (.int (iI w)), some (.int (iI t))] [.int (iI v), .int (iI w), .ref (ad 79)] := by
    intro v hv hnb
    have hvb : 0 ≤ v ∧ v < 7 := by
      rw [hv]; unfold cHt; by_cases h : t = 7
      · rw [if_pos h]; exact ha h
      · rw [if_neg h]; omega
    refine g_F2 X (k_X7_of E (by omega) (by omega)) gX7_costHere_X7_of rfl (by decide +kernel) (by decide) ob_79 (Nat.le_of_ble_eq_true rfl) dX7_costHere_36 (fun hz36 => ?_)
    refine g_rg (fun hR36 => ?_)
    exact g_iretF X hr (by first | exact hR36 _ _ | exact hR0 _ _ | assumption | (unfold InR; omega)) (by first | exact ⟨by unfold cH; rw [if_pos (by omega)], rfl⟩ | exact ⟨by unfold cH; rw [if_neg hnb, hv], rfl⟩) dX7_costHere_39
  refine g_iload1 X dX7_costHere_0 ?_
  refine g_aload0 X dX7_costHere_1 ?_
  refine gf_7_barredWorker X i7 (by decide +kernel) dX7_costHere_2 ?_
  refine g_icmp_ne (tgt := 20) X (by first | exact hR0 _ _ | assumption | (unfold InR; omega)) (by first | exact hR0 _ _ | assumption | (unfold InR; omega)) dX7_costHere_5 (by decide) (fun h5 => ?_) (fun h5 => ?_)
  · skip
    refine g_aload0 X dX7_costHere_20 ?_
    refine g_iload1 X dX7_costHere_21 ?_
    refine g_iload2 X dX7_costHere_22 ?_
    refine g_bipush X dX7_costHere_23 (by decide +kernel) ?_
    refine g_icmp_ne (tgt := 35) X (by first | exact hR0 _ _ | assumption | (unfold InR; omega)) (by first | exact hR0 _ _ | assumption | (unfold InR; omega)) dX7_costHere_25 (by decide) (fun h25 => ?_) (fun h25 => ?_)
    · skip
      refine g_iload2 X dX7_costHere_35 ?_
      exact J36 _ (by unfold cHt; first | (rw [if_pos (by omega)]; done) | (rw [if_neg (by omega)]; done)) (by omega)
    · skip
      refine g_aload0 X dX7_costHere_28 ?_
      refine gf_7_another X i7 (by decide +kernel) dX7_costHere_29 ?_
      refine g_goto (tgt := 36) X dX7_costHere_32 (by decide) ?_
      exact J36 _ (by unfold cHt; first | (rw [if_pos (by omega)]; done) | (rw [if_neg (by omega)]; done)) (by omega)
  · skip
    refine g_iload2 X dX7_costHere_8 ?_
    refine g_aload0 X dX7_costHere_9 ?_
    refine gf_7_barredTask X i7 (by decide +kernel) dX7_costHere_10 ?_
    refine g_icmp_ne (tgt := 20) X (by first | exact hR0 _ _ | assumption | (unfold InR; omega)) (by first | exact hR0 _ _ | assumption | (unfold InR; omega)) dX7_costHere_13 (by decide) (fun h13 => ?_) (fun h13 => ?_)
    · skip
      refine g_aload0 X dX7_costHere_20 ?_
      refine g_iload1 X dX7_costHere_21 ?_
      refine g_iload2 X dX7_costHere_22 ?_
      refine g_bipush X dX7_costHere_23 (by decide +kernel) ?_
      refine g_icmp_ne (tgt := 35) X (by first | exact hR0 _ _ | assumption | (unfold InR; omega)) (by first | exact hR0 _ _ | assumption | (unfold InR; omega)) dX7_costHere_25 (by decide) (fun h25 => ?_) (fun h25 => ?_)
      · skip
        refine g_iload2 X dX7_costHere_35 ?_
        exact J36 _ (by unfold cHt; first | (rw [if_pos (by omega)]; done) | (rw [if_neg (by omega)]; done)) (by omega)
      · skip
        refine g_aload0 X dX7_costHere_28 ?_
        refine gf_7_another X i7 (by decide +kernel) dX7_costHere_29 ?_
        refine g_goto (tgt := 36) X dX7_costHere_32 (by decide) ?_
        exact J36 _ (by unfold cHt; first | (rw [if_pos (by omega)]; done) | (rw [if_neg (by omega)]; done)) (by omega)
    · skip
      refine g_iconst X dX7_costHere_16 ?_
      refine g_goto (tgt := 39) X dX7_costHere_17 (by decide) ?_
      exact g_iretF X hr (by first | exact hR0 _ _ | assumption | (unfold InR; omega)) (by first | exact ⟨by unfold cH; rw [if_pos (by omega)], rfl⟩ | exact ⟨by unfold cH; rw [if_neg hnb, hv], rfl⟩) dX7_costHere_39

theorem bsS_b {σ : St} (hM : MT (σ 80)) {wk tk : Int} {i : Nat} {k : Int} (hi : i < 7) : ∀ n : Nat, 0 ≤ bsS σ wk tk i k n ∧ bsS σ wk tk i k n ≤ 1080000 := by
  intro n
  have hd := hM.2.2.1 i (by omega) (by omega)
  have ih' := gS_b hM (wk := wk) (tk := tk) i (by omega)
  induction n with
  | zero => have h0 := ih' k; show 0 ≤ gS σ wk tk i k + dM σ i ∧ gS σ wk tk i k + dM σ i ≤ _; unfold dM; omega
  | succ n ihn =>
    have e : ((n + 1 : Nat) : Int) = (n : Int) + 1 := by omega
    rw [e, bsS_s (by omega)]
    have h1 := ih' (k - p2 n)
    by_cases hc : hsB tk k n = 1 ∧ 0 ≤ cH σ i n ∧ gS σ wk tk i (k - p2 n) + cH σ i n < bsS σ wk tk i k n
    · rw [if_pos hc]; omega
    · rw [if_neg hc]; exact ihn

set_option maxHeartbeats 4000000 in
set_option maxRecDepth 100000 in
theorem k_X7_leastFor (E0 : EV) {ad : Int → Nat} {σ : St} {wk tk : Int} (hM : MT (σ 80)) (hwk : 0 ≤ wk ∧ wk < 256) (htk : 0 ≤ tk ∧ tk < 256) (han : bt tk 7 = 1 → 0 ≤ σ 79 6 ∧ σ 79 6 < 7) : MGE E0 yX7_leastFor wsX7_leastFor 2 44 ad σ [.ref (ad 79), .int (iI wk), .int (iI tk)] (PI (fun z σ' => z = lfV σ wk tk ∧ F83 σ σ')) := by
  refine MGE.of (cc := cX7_leastFor) (maxL := 9) (ret := (some .int)) (own := RX7) [some (.ref (ad 79)), some (.int (iI wk)), some (.int (iI tk)), none, none, none, none, none, none] (by decide +kernel) rfl rfl (Nat.le_of_ble_eq_true rfl) rfl rfl (fun E X hr => ?_)
  have i7 : ∀ w ∈ wsX70, w ∈ wsX7_leastFor := by decide +kernel
  refine g_rg (fun hR0 => ?_)
  have hm0 := hM.1
  refine g_iconst X dX7_leastFor_0 ?_
  refine g_istore3 X dX7_leastFor_1 (by decide) (by first | exact Or.inl rfl | exact Or.inr ⟨_, rfl, rfl⟩) ?_
  have L2 : ∀ (n2 : Nat) (k : Int) (σ1 : St) (u4 u5 u6 u7 u8 : Option Value), (256 - k).toNat < n2 → (0 ≤ k ∧ k ≤ 256) → (F83 σ σ1) → (∀ j, 0 ≤ j → j < k → σ1 83 j = gS σ wk tk 0 j) → WG E ad 9 σ1 2 [some (.ref (ad 79)), some (.int (iI wk)), some (.int (iI tk)), some (.int (iI k)), u4, u5, u6, u7, u8] [] := by
    intro n2
    induction n2 with
    | zero => intro k σ1 u4 u5 u6 u7 u8 hn; exact absurd hn (Nat.not_lt_zero _)
    | succ n2 ih2 =>
      intro k σ1 u4 u5 u6 u7 u8 hn2 hk hF hl
      refine g_rg (fun hRL2 => ?_)
      refine g_iload3 X dX7_leastFor_2 ?_
      refine g_sipush X dX7_leastFor_3 (by decide +kernel) ?_
      refine g_icmp_ge (tgt := 31) X (by first | exact hRL2 _ _ | exact hR0 _ _ | assumption | (unfold InR; omega)) (by first | exact hRL2 _ _ | exact hR0 _ _ | assumption | (unfold InR; omega)) dX7_leastFor_6 (by decide) (fun h6 => ?_) (fun h6 => ?_)
      · skip
        refine g_iconst X dX7_leastFor_31 ?_
        refine g_istore3 X dX7_leastFor_32 (by decide) (by first | exact Or.inl rfl | exact Or.inr ⟨_, rfl, rfl⟩) ?_
        have L33 : ∀ (n33 : Nat) (w : Int) (σ1 : St) (u4 u5 u6 u7 u8 : Option Value), (σ 80 0 - w).toNat < n33 → (0 ≤ w ∧ w ≤ σ 80 0) → (F83 σ σ1) → (∀ j, 0 ≤ j → j < 256 → σ1 83 j = gS σ wk tk w.toNat j) → WG E ad 9 σ1 33 [some (.ref (ad 79)), some (.int (iI wk)), some (.int (iI tk)), some (.int (iI w)), u4, u5, u6, u7, u8] [] := by
          intro n33
          induction n33 with
          | zero => intro w σ1 u4 u5 u6 u7 u8 hn; exact absurd hn (Nat.not_lt_zero _)
          | succ n33 ih33 =>
            intro w σ1 u4 u5 u6 u7 u8 hn33 hw hF hl
            refine g_rg (fun hRL33 => ?_)
            have e0 : σ1 80 0 = σ 80 0 := hF _ _ (by omega)
            refine g_iload3 X dX7_leastFor_33 ?_
            refine g_aload0 X dX7_leastFor_34 ?_
            refine gf_7_s X i7 (by decide +kernel) dX7_leastFor_35 ?_
            refine g_iconst X dX7_leastFor_38 ?_
            refine g_iald X (ia_80 (by omega)) dX7_leastFor_39 ?_
            refine g_icmp_ge (tgt := 189) X (by first | exact hRL33 _ _ | exact hRL2 _ _ | exact hR0 _ _ | assumption | (unfold InR; omega)) (by first | exact hRL33 _ _ | exact hRL2 _ _ | exact hR0 _ _ | assumption | (unfold InR; omega)) dX7_leastFor_40 (by decide) (fun h40 => ?_) (fun h40 => ?_)
            · skip
              refine g_ldc X (z := 1000000) (by decide +kernel) rfl dX7_leastFor_189 ?_
              refine g_istore3 X dX7_leastFor_191 (by decide) (by first | exact Or.inl rfl | exact Or.inr ⟨_, rfl, rfl⟩) ?_
              refine g_iconst X dX7_leastFor_192 ?_
              refine g_istore4 X dX7_leastFor_193 (by decide) (by first | exact Or.inl rfl | exact Or.inr ⟨_, rfl, rfl⟩) ?_
              have L195 : ∀ (n195 : Nat) (k a : Int) (u5 u6 u7 u8 : Option Value), (256 - k).toNat < n195 → (0 ≤ k ∧ k ≤ 256) → (0 ≤ a ∧ a ≤ 1000000) → (a = fnS σ wk tk k) → WG E ad 9 σ1 195 [some (.ref (ad 79)), some (.int (iI wk)), some (.int (iI tk)), some (.int (iI a)), some (.int (iI k)), u5, u6, u7, u8] [] := by
                intro n195
                induction n195 with
                | zero => intro k a u5 u6 u7 u8 hn; exact absurd hn (Nat.not_lt_zero _)
                | succ n195 ih195 =>
                  intro k a u5 u6 u7 u8 hn195 hk hab ha
                  refine g_rg (fun hRL195 => ?_)
                  refine g_iload4 X dX7_leastFor_195 ?_
                  refine g_sipush X dX7_leastFor_197 (by decide +kernel) ?_
                  refine g_icmp_ge (tgt := 232) X (by first | exact hRL195 _ _ | exact hRL33 _ _ | exact hRL2 _ _ | exact hR0 _ _ | assumption | (unfold InR; omega)) (by first | exact hRL195 _ _ | exact hRL33 _ _ | exact hRL2 _ _ | exact hR0 _ _ | assumption | (unfold InR; omega)) dX7_leastFor_200 (by decide) (fun h200 => ?_) (fun h200 => ?_)
                  · skip
                    refine g_iload3 X dX7_leastFor_232 ?_
                    exact g_iret X hr (by first | exact hRL195 _ _ | exact hRL33 _ _ | exact hRL2 _ _ | exact hR0 _ _ | assumption | (unfold InR; omega)) ⟨by rw [ha, show k = 256 by omega]; rfl, hF⟩ dX7_leastFor_233
                  · skip
                    have hlk : σ1 83 k = gS σ wk tk (σ 80 0).toNat k := by rw [hl k (by omega) (by omega), show w = σ 80 0 by omega]
                    have h8k := gS_b hM (wk := wk) (tk := tk) (σ 80 0).toNat (by omega) k
                    refine g_aload0 X dX7_leastFor_203 ?_
                    refine gf_7_least X i7 (by decide +kernel) dX7_leastFor_204 ?_
                    refine g_iload4 X dX7_leastFor_207 ?_
                    refine g_iald X (ia_83 (by omega)) dX7_leastFor_209 ?_
                    refine g_iload3 X dX7_leastFor_210 ?_
                    refine g_icmp_ge (tgt := 224) X (by first | exact hRL195 _ _ | exact hRL33 _ _ | exact hRL2 _ _ | exact hR0 _ _ | assumption | (unfold InR; omega)) (by first | exact hRL195 _ _ | exact hRL33 _ _ | exact hRL2 _ _ | exact hR0 _ _ | assumption | (unfold InR; omega)) dX7_leastFor_211 (by decide) (fun h211 => ?_) (fun h211 => ?_)
                    · skip
                      refine g_iload3 X dX7_leastFor_224 ?_
                      refine g_istore3 X dX7_leastFor_225 (by decide) (by first | exact Or.inl rfl | exact Or.inr ⟨_, rfl, rfl⟩) ?_
                      refine g_iinc4 X dX7_leastFor_226 (by decide) (by first | exact Or.inl rfl | exact Or.inr ⟨_, rfl, rfl⟩) ?_
                      refine g_goto (tgt := 195) X dX7_leastFor_229 (by decide) ?_
                      refine ih195 _ _ _ _ _ _ (by omega) ?_ ?_ ?_
                      · omega
                      · omega
                      · rw [fnS_s (by omega), ← ha, ← hlk]
                        first | (rw [if_pos (by omega)]; done) | (rw [if_neg (by omega)]; done)
                    · skip
                      refine g_aload0 X dX7_leastFor_214 ?_
                      refine gf_7_least X i7 (by decide +kernel) dX7_leastFor_215 ?_
                      refine g_iload4 X dX7_leastFor_218 ?_
                      refine g_iald X (ia_83 (by omega)) dX7_leastFor_220 ?_
                      refine g_goto (tgt := 225) X dX7_leastFor_221 (by decide) ?_
                      refine g_istore3 X dX7_leastFor_225 (by decide) (by first | exact Or.inl rfl | exact Or.inr ⟨_, rfl, rfl⟩) ?_
                      refine g_iinc4 X dX7_leastFor_226 (by decide) (by first | exact Or.inl rfl | exact Or.inr ⟨_, rfl, rfl⟩) ?_
                      refine g_goto (tgt := 195) X dX7_leastFor_229 (by decide) ?_
                      refine ih195 _ _ _ _ _ _ (by omega) ?_ ?_ ?_
                      · omega
                      · omega
                      · rw [fnS_s (by omega), ← ha, ← hlk]
                        first | (rw [if_pos (by omega)]; done) | (rw [if_neg (by omega)]; done)
              refine L195 _ _ _ _ _ _ _ (Nat.lt_succ_self _) ?_ ?_ ?_
              · omega
              · omega
              · rfl
            · skip
              refine g_sipush X dX7_leastFor_43 (by decide +kernel) ?_
              refine g_istore4 X dX7_leastFor_46 (by decide) (by first | exact Or.inl rfl | exact Or.inr ⟨_, rfl, rfl⟩) ?_
              have L48 : ∀ (n48 : Nat) (k : Int) (σ2 : St) (u5 u6 u7 u8 : Option Value), (k + 1).toNat < n48 → (-1 ≤ k ∧ k ≤ 255) → (F83 σ σ2) → (∀ j, 0 ≤ j → j ≤ k → σ2 83 j = gS σ wk tk w.toNat j) → (∀ j, k < j → j < 256 → σ2 83 j = gS σ wk tk (w.toNat + 1) j) → (bt wk w = 1 ∨ k = 255) → WG E ad 9 σ2 48 [some (.ref (ad 79)), some (.int (iI wk)), some (.int (iI tk)), some (.int (iI w)), some (.int (iI k)), u5, u6, u7, u8] [] := by
                intro n48
                induction n48 with
                | zero => intro k σ2 u5 u6 u7 u8 hn; exact absurd hn (Nat.not_lt_zero _)
                | succ n48 ih48 =>
                  intro k σ2 u5 u6 u7 u8 hn48 hk hF2 hlo hhi hbk
                  refine g_rg (fun hRL48 => ?_)
                  have hq : 0 ≤ wk / p2 w ∧ wk / p2 w < 256 := by
                    have h1 := p2_k (k := w) (by omega)
                    exact ⟨Int.ediv_nonneg hwk.1 (by omega), Int.lt_of_le_of_lt (Int.ediv_le_self _ hwk.1) (by omega)⟩
                  have hb1 : wk / p2 w % 2 = bt wk w := rfl
                  have hwn : ((w.toNat : Nat) : Int) = w := Int.toNat_of_nonneg hw.1
                  have hdw := hM.2.2.1 w (by omega) (by omega)
                  have e2 : ∀ j, σ2 80 j = σ 80 j := fun j => hF2 80 j (by omega)
                  have hdw2 := e2 (2 + w)
                  refine g_iload4 X dX7_leastFor_48 ?_
                  refine g_if_lt (tgt := 183) X (by first | exact hRL48 _ _ | exact hRL33 _ _ | exact hRL2 _ _ | exact hR0 _ _ | assumption | (unfold InR; omega)) dX7_leastFor_50 (by decide) (fun h50 => ?_) (fun h50 => ?_)
                  · skip
                    refine g_iinc3 X dX7_leastFor_183 (by decide) (by first | exact Or.inl rfl | exact Or.inr ⟨_, rfl, rfl⟩) ?_
                    refine g_goto (tgt := 33) X dX7_leastFor_186 (by decide) ?_
                    refine ih33 _ _ _ _ _ _ _ (by omega) ?_ ?_ ?_
                    · omega
                    · exact hF2
                    · intro j a b
                      rw [show (w + 1).toNat = w.toNat + 1 by omega]
                      rcases hbk with hbk | hbk
                      · exact hhi j (by omega) b
                      · first
                          | (rw [gS_0 (by rw [hwn]; omega)]; exact hlo j a (by omega))
                          | exact hhi j (by omega) b
                  · skip
                    refine g_iload1 X dX7_leastFor_53 ?_
                    refine g_iload3 X dX7_leastFor_54 ?_
                    refine g_ishr X (b_shr (by omega) (by omega)) dX7_leastFor_55 ?_
                    refine g_iconst X dX7_leastFor_56 ?_
                    refine g_iand X (b_and1 (by omega)) dX7_leastFor_57 ?_
                    refine g_iconst X dX7_leastFor_58 ?_
                    refine g_icmp_ne (tgt := 183) X (by first | exact hRL48 _ _ | exact hRL33 _ _ | exact hRL2 _ _ | exact hR0 _ _ | assumption | (unfold InR; omega)) (by first | exact hRL48 _ _ | exact hRL33 _ _ | exact hRL2 _ _ | exact hR0 _ _ | assumption | (unfold InR; omega)) dX7_leastFor_59 (by decide) (fun h59 => ?_) (fun h59 => ?_)
                    · skip
                      refine g_iinc3 X dX7_leastFor_183 (by decide) (by first | exact Or.inl rfl | exact Or.inr ⟨_, rfl, rfl⟩) ?_
                      refine g_goto (tgt := 33) X dX7_leastFor_186 (by decide) ?_
                      refine ih33 _ _ _ _ _ _ _ (by omega) ?_ ?_ ?_
                      · omega
                      · exact hF2
                      · intro j a b
                        rw [show (w + 1).toNat = w.toNat + 1 by omega]
                        rcases hbk with hbk | hbk
                        · exact hhi j (by omega) b
                        · first
                            | (rw [gS_0 (by rw [hwn]; omega)]; exact hlo j a (by omega))
                            | exact hhi j (by omega) b
                    · skip
                      have h8k := gS_b hM (wk := wk) (tk := tk) w.toNat (by omega) k
                      have h9k := hlo k (by omega) (by omega)
                      refine g_aload0 X dX7_leastFor_62 ?_
                      refine gf_7_least X i7 (by decide +kernel) dX7_leastFor_63 ?_
                      refine g_iload4 X dX7_leastFor_66 ?_
                      refine g_iald X (ia_83 (by omega)) dX7_leastFor_68 ?_
                      refine g_aload0 X dX7_leastFor_69 ?_
                      refine gf_7_s X i7 (by decide +kernel) dX7_leastFor_70 ?_
                      refine g_iconst X dX7_leastFor_73 ?_
                      refine g_iload3 X dX7_leastFor_74 ?_
                      refine g_iadd X dX7_leastFor_75 ?_
                      refine g_iald X (ia_80 (by omega)) dX7_leastFor_76 ?_
                      refine g_iadd X dX7_leastFor_77 ?_
                      refine g_istore5 X dX7_leastFor_78 (by decide) (by first | exact Or.inl rfl | exact Or.inr ⟨_, rfl, rfl⟩) ?_
                      refine g_iconst X dX7_leastFor_80 ?_
                      refine g_istore6 X dX7_leastFor_81 (by decide) (by first | exact Or.inl rfl | exact Or.inr ⟨_, rfl, rfl⟩) ?_
                      have L83 : ∀ (n83 : Nat) (t b : Int) (u7 u8 : Option Value), (8 - t).toNat < n83 → (0 ≤ t ∧ t ≤ 8) → (0 ≤ b ∧ b ≤ 1080000) → (b = bsS σ wk tk w.toNat k t) → WG E ad 9 σ2 83 [some (.ref (ad 79)), some (.int (iI wk)), some (.int (iI tk)), some (.int (iI w)), some (.int (iI k)), some (.int (iI b)), some (.int (iI t)), u7, u8] [] := by
                        intro n83
                        induction n83 with
                        | zero => intro t b u7 u8 hn; exact absurd hn (Nat.not_lt_zero _)
                        | succ n83 ih83 =>
                          intro t b u7 u8 hn83 ht hbb hb
                          refine g_rg (fun hRL83 => ?_)
                          refine g_iload6 X dX7_leastFor_83 ?_
                          refine g_bipush X dX7_leastFor_85 (by decide +kernel) ?_
                          refine g_icmp_gt (tgt := 168) X (by first | exact hRL83 _ _ | exact hRL48 _ _ | exact hRL33 _ _ | exact hRL2 _ _ | exact hR0 _ _ | assumption | (unfold InR; omega)) (by first | exact hRL83 _ _ | exact hRL48 _ _ | exact hRL33 _ _ | exact hRL2 _ _ | exact hR0 _ _ | assumption | (unfold InR; omega)) dX7_leastFor_87 (by decide) (fun h87 => ?_) (fun h87 => ?_)
                          · skip
                            refine g_aload0 X dX7_leastFor_168 ?_
                            refine gf_7_least X i7 (by decide +kernel) dX7_leastFor_169 ?_
                            refine g_iload4 X dX7_leastFor_172 ?_
                            refine g_iload5 X dX7_leastFor_174 ?_
                            refine g_iast X (ia_83 (by omega)) (by first | exact hRL83 _ _ | exact hRL48 _ _ | exact hRL33 _ _ | exact hRL2 _ _ | exact hR0 _ _ | assumption | (unfold InR; omega)) dX7_leastFor_176 ?_
                            refine g_rg (fun hR176 => ?_)
                            refine g_iinc4 X dX7_leastFor_177 (by decide) (by first | exact Or.inl rfl | exact Or.inr ⟨_, rfl, rfl⟩) ?_
                            refine g_goto (tgt := 48) X dX7_leastFor_180 (by decide) ?_
                            refine ih48 _ _ _ _ _ _ (by omega) ?_ ?_ ?_ ?_ ?_
                            · omega
                            · intro q j a
                              unfold up
                              rw [if_neg (fun h => a h.1)]
                              exact hF2 q j a
                            · intro j a b
                              unfold up
                              rw [if_neg (by omega)]
                              exact hlo j a (by omega)
                            · intro j a b
                              unfold up
                              by_cases hj : j = k
                              · rw [if_pos ⟨rfl, hj⟩, hb, hj, gS_1 (by rw [hwn]; omega), show t = 8 by omega]
                              · rw [if_neg (fun h => hj h.2)]; exact hhi j (by omega) b
                            · exact Or.inl (by omega)
                          · skip
                            have hlb := la_b (b := k) htk
                            have hp2k := p2_k (k := t) (by omega)
                            have hhb := bt_01 (la tk k) t
                            have hha : hsB tk k t = bt (la tk k) t := rfl
                            have h17 := hsB_1 (tk := tk) (k := k) (t := t) (by omega) (by omega) (by omega)
                            have hmul : bt (la tk k) t * p2 t = 0 ∧ bt (la tk k) t = 0 ∨ bt (la tk k) t * p2 t = p2 t ∧ bt (la tk k) t = 1 := by
                              rcases hhb with h | h
                              · rw [h]; exact Or.inl ⟨Int.zero_mul _, rfl⟩
                              · rw [h]; exact Or.inr ⟨Int.one_mul _, rfl⟩
                            have hkp : bt (la tk k) t = 1 → p2 t ≤ k := fun h => bt_le (by omega) (by omega) (h17.mp (hha.trans h)).2
                            have hcb : (t = 7 → bt (la tk k) t = 1 → 0 ≤ σ2 79 6 ∧ σ2 79 6 < 7) := fun h7 h1 => by
                              rw [hF2 79 6 (by omega)]
                              have h9 := (h17.mp (hha.trans h1)).1
                              rw [h7] at h9
                              exact han h9
                            have hM2 : MT (σ2 80) := by
                              have e : σ2 80 = σ 80 := funext fun k => hF2 80 k (by omega)
                              rw [e]; exact hM
                            have J117 : ∀ c : Int, ((bt (la tk k) t = 1 ∧ c = cH σ w t ∧ -1 ≤ c ∧ c ≤ 9999) ∨ (bt (la tk k) t = 0 ∧ c = -1)) → WG E ad 9 σ2 117 [some (.ref (ad 79)), some (.int (iI wk)), some (.int (iI tk)), some (.int (iI w)), some (.int (iI k)), some (.int (iI b)), some (.int (iI t)), some (.int (iI (bt (la tk k) t * p2 t))), u8] [.int (iI c)] := by
                              intro c hc
                              have hkb : 0 ≤ k - bt (la tk k) t * p2 t ∧ k - bt (la tk k) t * p2 t < 256 := by
                                rcases hmul with h | h
                                · omega
                                · have := hkp h.2; omega
                              have hL2 := hlo (k - bt (la tk k) t * p2 t) hkb.1 (by omega)
                              have hL3 := gS_b hM (wk := wk) (tk := tk) w.toNat (by omega) (k - bt (la tk k) t * p2 t)
                              have J160 : ∀ v : Int, v = bsS σ wk tk w.toNat k (t + 1) → WG E ad 9 σ2 160 [some (.ref (ad 79)), some (.int (iI wk)), some (.int (iI tk)), some (.int (iI w)), some (.int (iI k)), some (.int (iI b)), some (.int (iI t)), some (.int (iI (bt (la tk k) t * p2 t))), some (.int (iI c))] [.int (iI v)] := by
                                intro v hv
                                have hvb : 0 ≤ v ∧ v ≤ 1080000 := by
                                  have h9 := bsS_b hM (wk := wk) (tk := tk) (i := w.toNat) (k := k) (by omega) (t + 1).toNat
                                  rw [Int.toNat_of_nonneg (by omega)] at h9
                                  rw [hv]; exact h9
                                refine g_istore5 X dX7_leastFor_160 (by decide) (by first | exact Or.inl rfl | exact Or.inr ⟨_, rfl, rfl⟩) ?_
                                refine g_iinc6 X dX7_leastFor_162 (by decide) (by first | exact Or.inl rfl | exact Or.inr ⟨_, rfl, rfl⟩) ?_
                                refine g_goto (tgt := 83) X dX7_leastFor_165 (by decide) ?_
                                refine ih83 _ _ _ _ (by omega) ?_ ?_ ?_
                                · omega
                                · exact hvb
                                · exact hv
                              refine g_istore8 X dX7_leastFor_117 (by decide) (by first | exact Or.inl rfl | exact Or.inr ⟨_, rfl, rfl⟩) ?_
                              refine g_iload8 X dX7_leastFor_119 ?_
                              refine g_if_lt (tgt := 158) X (by first | exact hRL83 _ _ | exact hRL48 _ _ | exact hRL33 _ _ | exact hRL2 _ _ | exact hR0 _ _ | assumption | (unfold InR; omega)) dX7_leastFor_121 (by decide) (fun h121 => ?_) (fun h121 => ?_)
                              · skip
                                refine g_iload5 X dX7_leastFor_158 ?_
                                refine J160 _ ?_
                                rw [bsS_s (by omega), ← hb, hwn]
                                rcases hc with hc | hc
                                · have e2 : gS σ wk tk w.toNat (k - bt (la tk k) t * p2 t) = gS σ wk tk w.toNat (k - p2 t) := by rw [hc.1, Int.one_mul]
                                  first | (rw [if_pos (by omega)]; omega) | (rw [if_neg (by omega)]; done) | (rw [if_neg (by omega)]; omega)
                                · first | omega | (rw [if_neg (by omega)]; done)
                              · skip
                                refine g_aload0 X dX7_leastFor_124 ?_
                                refine gf_7_least X i7 (by decide +kernel) dX7_leastFor_125 ?_
                                refine g_iload4 X dX7_leastFor_128 ?_
                                refine g_iload7 X dX7_leastFor_130 ?_
                                refine g_isub X dX7_leastFor_132 ?_
                                refine g_iald X (ia_83 (by omega)) dX7_leastFor_133 ?_
                                refine g_iload8 X dX7_leastFor_134 ?_
                                refine g_iadd X dX7_leastFor_136 ?_
                                refine g_iload5 X dX7_leastFor_137 ?_
                                refine g_icmp_ge (tgt := 158) X (by first | exact hRL83 _ _ | exact hRL48 _ _ | exact hRL33 _ _ | exact hRL2 _ _ | exact hR0 _ _ | assumption | (unfold InR; omega)) (by first | exact hRL83 _ _ | exact hRL48 _ _ | exact hRL33 _ _ | exact hRL2 _ _ | exact hR0 _ _ | assumption | (unfold InR; omega)) dX7_leastFor_139 (by decide) (fun h139 => ?_) (fun h139 => ?_)
                                · skip
                                  refine g_iload5 X dX7_leastFor_158 ?_
                                  refine J160 _ ?_
                                  rw [bsS_s (by omega), ← hb, hwn]
                                  rcases hc with hc | hc
                                  · have e2 : gS σ wk tk w.toNat (k - bt (la tk k) t * p2 t) = gS σ wk tk w.toNat (k - p2 t) := by rw [hc.1, Int.one_mul]
                                    first | (rw [if_pos (by omega)]; omega) | (rw [if_neg (by omega)]; done) | (rw [if_neg (by omega)]; omega)
                                  · first | omega | (rw [if_neg (by omega)]; done)
                                · skip
                                  refine g_aload0 X dX7_leastFor_142 ?_
                                  refine gf_7_least X i7 (by decide +kernel) dX7_leastFor_143 ?_
                                  refine g_iload4 X dX7_leastFor_146 ?_
                                  refine g_iload7 X dX7_leastFor_148 ?_
                                  refine g_isub X dX7_leastFor_150 ?_
                                  refine g_iald X (ia_83 (by omega)) dX7_leastFor_151 ?_
                                  refine g_iload8 X dX7_leastFor_152 ?_
                                  refine g_iadd X dX7_leastFor_154 ?_
                                  refine g_goto (tgt := 160) X dX7_leastFor_155 (by decide) ?_
                                  refine J160 _ ?_
                                  rw [bsS_s (by omega), ← hb, hwn]
                                  rcases hc with hc | hc
                                  · have e2 : gS σ wk tk w.toNat (k - bt (la tk k) t * p2 t) = gS σ wk tk w.toNat (k - p2 t) := by rw [hc.1, Int.one_mul]
                                    first | (rw [if_pos (by omega)]; omega) | (rw [if_neg (by omega)]; done) | (rw [if_neg (by omega)]; omega)
                                  · first | omega | (rw [if_neg (by omega)]; done)
                            refine g_iload2 X dX7_leastFor_90 ?_
                            refine g_iload4 X dX7_leastFor_91 ?_
                            refine g_iand X (b_land htk (by omega)) dX7_leastFor_93 ?_
                            refine g_iconst X dX7_leastFor_94 ?_
                            refine g_iload6 X dX7_leastFor_95 ?_
                            refine g_ishl X (b_shl (by omega)) dX7_leastFor_97 ?_
                            refine g_iand X (b_andp hlb (by omega)) dX7_leastFor_98 ?_
                            refine g_istore7 X dX7_leastFor_99 (by decide) (by first | exact Or.inl rfl | exact Or.inr ⟨_, rfl, rfl⟩) ?_
                            refine g_iload7 X dX7_leastFor_101 ?_
                            refine g_if_ne (tgt := 110) X (by first | exact hRL83 _ _ | exact hRL48 _ _ | exact hRL33 _ _ | exact hRL2 _ _ | exact hR0 _ _ | assumption | (unfold InR; omega)) dX7_leastFor_103 (by decide) (fun h103 => ?_) (fun h103 => ?_)
                            · skip
                              refine g_aload0 X dX7_leastFor_110 ?_
                              refine g_iload3 X dX7_leastFor_111 ?_
                              refine g_iload6 X dX7_leastFor_112 ?_
                              refine g_F2 X (k_X7_costHere E (by omega) (by omega) (fun h => hcb h (by omega))) gX7_leastFor_X7_costHere rfl (by decide +kernel) (by decide) ob_79 (Nat.le_of_ble_eq_true rfl) dX7_leastFor_114 (fun hz114 => ?_)
                              refine g_rg (fun hR114 => ?_)
                              exact J117 _ (by first | exact Or.inr ⟨by omega, rfl⟩ | (have h9 := cH_b hM2 (w := w) (t := t) (by omega) (by omega) (fun h => hcb h (by omega)); exact Or.inl ⟨by omega, cH_F hF2 w t, by omega, by omega⟩))
                            · skip
                              refine g_iconst X dX7_leastFor_106 ?_
                              refine g_goto (tgt := 117) X dX7_leastFor_107 (by decide) ?_
                              exact J117 _ (by first | exact Or.inr ⟨by omega, rfl⟩ | (have h9 := cH_b hM2 (w := w) (t := t) (by omega) (by omega) (fun h => hcb h (by omega)); exact Or.inl ⟨by omega, cH_F hF2 w t, by omega, by omega⟩))
                      refine L83 _ _ _ _ _ (Nat.lt_succ_self _) ?_ ?_ ?_
                      · omega
                      · have h9 := hlo k (by omega) (by omega)
                        have h8 := gS_b hM (wk := wk) (tk := tk) w.toNat (by omega) k
                        omega
                      · rw [hlo k (by omega) (by omega), e2]
                        show _ = gS σ wk tk w.toNat k + dM σ w.toNat
                        unfold dM
                        rw [hwn]
              refine L48 _ _ _ _ _ _ _ (Nat.lt_succ_self _) ?_ ?_ ?_ ?_ ?_
              · omega
              · exact hF
              · intro j a b
                exact hl j a (by omega)
              · intro j a b
                omega
              · exact Or.inr rfl
        refine L33 _ _ _ _ _ _ _ _ (Nat.lt_succ_self _) ?_ ?_ ?_
        · omega
        · exact hF
        · intro j a b
          exact hl j a (by omega)
      · skip
        have J24 : ∀ v : Int, v = (if k = 0 then 0 else 1000000) → WG E ad 9 σ1 24 [some (.ref (ad 79)), some (.int (iI wk)), some (.int (iI tk)), some (.int (iI k)), u4, u5, u6, u7, u8] [.int (iI v), .int (iI k), .ref (ad 83)] := by
          intro v hv
          have hvb : 0 ≤ v ∧ v ≤ 1000000 := by
            rw [hv]; by_cases h : k = 0
            · rw [if_pos h]; omega
            · rw [if_neg h]; omega
          refine g_iast X (ia_83 (by omega)) (by first | exact hRL2 _ _ | exact hR0 _ _ | assumption | (unfold InR; omega)) dX7_leastFor_24 ?_
          refine g_rg (fun hR24 => ?_)
          refine g_iinc3 X dX7_leastFor_25 (by decide) (by first | exact Or.inl rfl | exact Or.inr ⟨_, rfl, rfl⟩) ?_
          refine g_goto (tgt := 2) X dX7_leastFor_28 (by decide) ?_
          refine ih2 _ _ _ _ _ _ _ (by omega) ?_ ?_ ?_
          · omega
          · intro q j a
            unfold up
            rw [if_neg (fun h => a h.1)]
            exact hF q j a
          · intro j a b
            unfold up
            by_cases hj : j = k
            · rw [if_pos ⟨rfl, hj⟩, hv, hj]; rfl
            · rw [if_neg (fun h => hj h.2)]; exact hl j a (by omega)
        refine g_aload0 X dX7_leastFor_9 ?_
        refine gf_7_least X i7 (by decide +kernel) dX7_leastFor_10 ?_
        refine g_iload3 X dX7_leastFor_13 ?_
        refine g_iload3 X dX7_leastFor_14 ?_
        refine g_if_ne (tgt := 22) X (by first | exact hRL2 _ _ | exact hR0 _ _ | assumption | (unfold InR; omega)) dX7_leastFor_15 (by decide) (fun h15 => ?_) (fun h15 => ?_)
        · skip
          refine g_ldc X (z := 1000000) (by decide +kernel) rfl dX7_leastFor_22 ?_
          exact J24 _ (by first | (rw [if_pos (by omega)]; done) | (rw [if_neg (by omega)]; done))
        · skip
          refine g_iconst X dX7_leastFor_18 ?_
          refine g_goto (tgt := 24) X dX7_leastFor_19 (by decide) ?_
          exact J24 _ (by first | (rw [if_pos (by omega)]; done) | (rw [if_neg (by omega)]; done))
  refine L2 _ _ _ _ _ _ _ _ (Nat.lt_succ_self _) ?_ ?_ ?_
  · omega
  · exact fun q k _ => rfl
  · intro j a b
    omega
