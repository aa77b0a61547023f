/-! MY CONTRACTS: the class's face, its questions -/
def wOf (σ : St) (j : Int) : Int := fsP (fun w => decide (fP σ w = j)) (σ (TB 0) 0) (σ (TB 0) 0).toNat
theorem fP_r {σ : St} (hT : TOK σ 0) (w : Int) : -1 ≤ fP σ w ∧ (fP σ w < σ (TB 0) 1 ∨ fP σ w = -1) := fpk_r hT w _
def wOP (σ : St) (w : Int) : Int := FI (fun a j => if isB σ 0 w j = 1 then a else min a (σ (TR 0 w) j + lpP σ j)) (σ (TI 0) w) (σ (TB 0) 1)
def tgP (σ : St) (w : Int) : Int := FI (fun a j => if isB σ 0 w j ≠ 1 ∧ σ (TR 0 w) j + lpP σ j = wOP σ w then sb a j else a) 0 (σ (TB 0) 1)
def sWP (σ : St) : Int := FI (fun a w => a + wOP σ w) 0 (σ (TB 0) 0)
def sLP (σ : St) : Int := FI (fun a j => a + lpP σ j) 0 (σ (TB 0) 1)
def tPP (σ : St) : Int := FI (fun a w => a + bcN (tgP σ w)) 0 (σ (TB 0) 0)
theorem PLs.at {σ σ' : St} (hT : TOK σ 0) (h : PLs σ σ') : σ' (TB 0) 0 = σ (TB 0) 0 ∧ σ' (TB 0) 1 = σ (TB 0) 1 ∧ (∀ w, σ' (TI 0) w = σ (TI 0) w) ∧ ∀ w k, 0 ≤ w → w < 7 → σ' (TR 0 w) k = σ (TR 0 w) k :=
  ⟨h.1 _ _ (by unfold TB; omega) (by unfold TB; omega), h.1 _ _ (by unfold TB; omega) (by unfold TB; omega), fun w => h.1 _ _ (by unfold TI; omega) (by unfold TI; omega), fun w k a b => h.1 _ _ (by unfold TR; omega) (by unfold TR; omega)⟩
theorem wOP_of {σ σ' : St} (hT : TOK σ 0) (h : PLs σ σ') {w : Int} (hw : 0 ≤ w ∧ w < 7) : wOr σ' w = wOP σ w := by
  obtain ⟨e0, e1, e2, e3⟩ := h.at hT
  unfold wOr wO wOP
  rw [e1, e2]
  refine FI_congrI hT.2.1.1 (fun a j h0 hj => ?_)
  unfold isB
  rw [e3 w j hw.1 hw.2, h.2 j h0 hj]
theorem tgP_of {σ σ' : St} (hT : TOK σ 0) (h : PLs σ σ') {w : Int} (hw : 0 ≤ w ∧ w < 7) : tgT σ' w = tgP σ w := by
  have h5 := wOP_of hT h hw
  obtain ⟨e0, e1, e2, e3⟩ := h.at hT
  unfold tgT tgS tgP
  rw [e1]
  refine FI_congrI hT.2.1.1 (fun a j h0 hj => ?_)
  unfold isB
  rw [e3 w j hw.1 hw.2, h.2 j h0 hj, h5]
theorem sWP_of {σ σ' : St} (hT : TOK σ 0) (h : PLs σ σ') : sW σ' (σ' (TB 0) 0) = sWP σ := by
  obtain ⟨e0, e1, e2, e3⟩ := h.at hT
  have hm := hT.1
  unfold sW sWP
  rw [e0]
  refine FI_congrI hm.1 (fun a w h0 hw => ?_)
  rw [wOP_of hT h (by omega)]
theorem tPP_of {σ σ' : St} (hT : TOK σ 0) (h : PLs σ σ') : tP σ' (σ' (TB 0) 0) = tPP σ := by
  obtain ⟨e0, e1, e2, e3⟩ := h.at hT
  have hm := hT.1
  unfold tP tPP
  rw [e0]
  refine FI_congrI hm.1 (fun a w h0 hw => ?_)
  rw [tgP_of hT h (by omega)]
theorem sLP_of {σ σ' : St} (hT : TOK σ 0) (h : PLs σ σ') : sL σ' (σ' (TB 0) 1) = sLP σ := by
  obtain ⟨e0, e1, e2, e3⟩ := h.at hT
  unfold sL sLP
  rw [e1]
  exact FI_congrI hT.2.1.1 (fun a j h0 hj => by rw [h.2 j h0 hj])
theorem FI_add_b {f : Int → Int} {lo hi : Int} : ∀ n : Nat, (∀ j : Int, 0 ≤ j → j < n → lo ≤ f j ∧ f j ≤ hi) → lo * n ≤ FI (fun a j => a + f j) 0 n ∧ FI (fun a j => a + f j) 0 n ≤ hi * n := by
  intro n
  induction n with
  | zero => intro _; show lo * ((0 : Nat) : Int) ≤ 0 ∧ (0 : Int) ≤ hi * ((0 : Nat) : Int); simp
  | succ n ih =>
    intro hf
    have e : ((n + 1 : Nat) : Int) = (n : Int) + 1 := by omega
    have h1 := ih (fun j a b => hf j a (by omega))
    have h2 := hf n (by omega) (by omega)
    rw [e, FI_s (by omega), Int.mul_add, Int.mul_add]
    omega
theorem sW_b {σ : St} (hT : TOK σ 0) (hPL : PL σ) : -7 ≤ sW σ (σ (TB 0) 0) ∧ sW σ (σ (TB 0) 0) ≤ 70000 := by
  have hm := hT.1
  have h := FI_add_b (f := fun w => wOr σ w) (lo := -1) (hi := 9999) (σ (TB 0) 0).toNat (fun j a b => wOr_b hT hPL (by omega))
  rw [Int.toNat_of_nonneg hm.1] at h
  unfold sW
  omega
theorem sL_b {σ : St} (hT : TOK σ 0) (hPL : PL σ) : 0 ≤ sL σ (σ (TB 0) 1) ∧ sL σ (σ (TB 0) 1) ≤ 560000 := by
  have hn := hT.2.1
  have h := FI_add_b (f := fun j => σ 7 j) (lo := 0) (hi := 80000) (σ (TB 0) 1).toNat (fun j a b => hPL j a (by omega))
  rw [Int.toNat_of_nonneg hn.1] at h
  unfold sL
  omega
def twM (σ : St) (w j : Int) : Int := cW σ 0 w j + RW σ (ub (AW σ) w) 0 (mk j)
theorem tW_of {σ σ' : St} {wk w j : Int} (hT : TOK σ 0) (h : WP σ wk σ') (hw : 0 ≤ w ∧ w < 7) (hj : -1 ≤ j ∧ j < σ (TB 0) 1) : tW σ' w j = cW σ 0 w j + RW σ wk 0 (mk j) := by
  have hmk := mk_b (j := j) (n := σ (TB 0) 1) hj hT.2.1.2 hT.2.1.1
  unfold tW cW
  rw [h.1 (TR 0 w) _ (by unfold TR; omega), h.1 (TI 0) _ (by unfold TI; omega), h.2 0 _ (by omega) hT.1.1 hmk.1 hmk.2]
theorem WP_FR {σ σ1 σ2 : St} {wk : Int} (hT : TOK σ 0) (hF : FR σ σ1) (h : WP σ1 wk σ2) : WP σ wk σ2 := by
  have e0 : σ1 (TB 0) 0 = σ (TB 0) 0 := hF _ _ (by unfold TB; omega)
  have e1 : σ1 (TB 0) 1 = σ (TB 0) 1 := hF _ _ (by unfold TB; omega)
  refine ⟨fun q k a => (h.1 q k a).trans (hF q k a), fun w tk a b c d => ?_⟩
  rw [h.2 w tk a (by rw [e0]; exact b) c (by rw [e1]; exact d), RW_FR hT hF _ _ _ a]
/-- the room of a worker with a task in the first plan -/
def rmP (σ : St) (w : Int) : Int := tOk σ (ub (AW σ) w) w (fP σ w) - RW σ (AW σ) 0 0
theorem CH.tok {σ σ' : St} (hT : TOK σ 0) (h : CH σ σ') : TOK σ' 0 := hT.keep (fun q k a b => by unfold TB at a b; exact h.1 q k (by omega) (by omega) (by omega))
theorem CH.rw {σ σ' : St} (hT : TOK σ 0) (h : CH σ σ') (wk w tk : Int) (hw : 0 ≤ w) : RW σ' wk w tk = RW σ wk w tk := by
  have e0 : σ' (TB 0) 0 = σ (TB 0) 0 := h.1 _ _ (by unfold TB; omega) (by unfold TB; omega) (by unfold TB; omega)
  have e1 : σ' (TB 0) 1 = σ (TB 0) 1 := h.1 _ _ (by unfold TB; omega) (by unfold TB; omega) (by unfold TB; omega)
  have hm := hT.1
  unfold RW LTc
  rw [e0, e1]
  refine LT_congr hT.2.1.1 _ (fun v hv => h.1 _ _ (by unfold TI; omega) (by unfold TI; omega) (by unfold TI; omega)) (fun v hv j _ _ => ?_) tk
  have := wl_in _ v hv
  exact h.1 _ _ (by unfold TR; omega) (by unfold TR; omega) (by unfold TR; omega)
theorem CH.aw {σ σ' : St} (h : CH σ σ') : AW σ' = AW σ := by
  unfold AW
  rw [h.1 (TB 0) 0 (by unfold TB; omega) (by unfold TB; omega) (by unfold TB; omega)]
theorem CH.to {σ σ' : St} (hT : TOK σ 0) (h : CH σ σ') {wk w j : Int} (hw : 0 ≤ w ∧ w < 7) : tOk σ' wk w j = tOk σ wk w j := by
  have e1 : σ' (TB 0) 1 = σ (TB 0) 1 := h.1 _ _ (by unfold TB; omega) (by unfold TB; omega) (by unfold TB; omega)
  have hn := hT.2.1
  unfold tOk
  rw [e1]
  refine FI_congrI (by omega) (fun a i h0 hi => ?_)
  have eB : isB σ' 0 w (i - 1) = isB σ 0 w (i - 1) := by
    unfold isB
    rw [h.1 (TR 0 w) _ (by unfold TR; omega) (by unfold TR; omega) (by unfold TR; omega)]
  have eC : cW σ' 0 w (i - 1) = cW σ 0 w (i - 1) := by
    unfold cW
    rw [h.1 (TR 0 w) _ (by unfold TR; omega) (by unfold TR; omega) (by unfold TR; omega), h.1 (TI 0) _ (by unfold TI; omega) (by unfold TI; omega) (by unfold TI; omega)]
  rw [eB, eC, h.rw hT wk 0 _ (by omega)]
theorem CH.chp {σ σ' : St} (hT : TOK σ 0) (h : CH σ σ') : CHP σ' := by
  have e0 : σ' (TB 0) 0 = σ (TB 0) 0 := h.1 _ _ (by unfold TB; omega) (by unfold TB; omega) (by unfold TB; omega)
  have e1 : σ' (TB 0) 1 = σ (TB 0) 1 := h.1 _ _ (by unfold TB; omega) (by unfold TB; omega) (by unfold TB; omega)
  refine ⟨?_, fun w a b => ?_⟩
  · rw [h.2.1]
    have := RW_b hT (AW σ) 0 0 (by omega)
    omega
  · rw [e0] at b
    rw [h.2.2 w a b, e1]
    exact fP_r hT w
/-- the room, or -1: what dearest looks at -/
def rdP (σ : St) (w : Int) : Int := if fP σ w = -1 then -1 else rmP σ w
def moP (σ : St) (i : Int) : Int := FI (fun a w => if a < rdP σ w then rdP σ w else a) (-1) i
def deP (σ : St) : Int := FI (fun a w => if moP σ w < rdP σ w then w else a) (-1) (σ (TB 0) 0)
theorem deP_of {σ σ' : St} (hT : TOK σ 0) (h : CH σ σ') : deS σ' (σ' (TB 0) 0) = deP σ := by
  have e0 : σ' (TB 0) 0 = σ (TB 0) 0 := h.1 _ _ (by unfold TB; omega) (by unfold TB; omega) (by unfold TB; omega)
  have hm := hT.1
  have hr : ∀ w, 0 ≤ w → w < σ (TB 0) 0 → rmO σ' w = rdP σ w := fun w a b => by
    unfold rmO rdP rmP
    rw [h.2.2 w a b, h.2.1, h.aw, h.to hT (by omega)]
  have hmo : ∀ n : Nat, (n : Int) ≤ σ (TB 0) 0 → moS σ' n = moP σ n := fun n a => by
    unfold moS moP
    exact FI_congr n (fun x w b c => by rw [hr w b (by omega)])
  unfold deS deP
  rw [e0]
  refine FI_congrI hm.1 (fun a w b c => ?_)
  have := hmo w.toNat (by omega)
  rw [Int.toNat_of_nonneg b] at this
  rw [this, hr w b c]
theorem deP_r {σ : St} : ∀ n : Nat, -1 ≤ FI (fun a w => if moP σ w < rdP σ w then w else a) (-1) n ∧ FI (fun a w => if moP σ w < rdP σ w then w else a) (-1) n < n ∨ FI (fun a w => if moP σ w < rdP σ w then w else a) (-1) n = -1 := by
  intro n
  induction n with
  | zero => exact Or.inr rfl
  | succ n ih =>
    have e : ((n + 1 : Nat) : Int) = (n : Int) + 1 := by omega
    rw [e, FI_s (by omega)]
    by_cases hc : moP σ n < rdP σ n
    · rw [if_pos hc]; omega
    · rw [if_neg hc]; omega
def cPP (σ : St) : Int := FI (fun a w => if fP σ w = -1 then a else a + 1) 0 (σ (TB 0) 0)
theorem cPP_of {σ σ' : St} (hT : TOK σ 0) (h : CH σ σ') : cP σ' (σ' (TB 0) 0) = cPP σ := by
  have e0 : σ' (TB 0) 0 = σ (TB 0) 0 := h.1 _ _ (by unfold TB; omega) (by unfold TB; omega) (by unfold TB; omega)
  unfold cP cPP
  rw [e0]
  exact FI_congrI hT.1.1 (fun a w b c => by rw [h.2.2 w b c])
theorem iI_bv (z : Int) : (iI z).toBitVec = BitVec.ofInt 32 z := rfl
def us (k m : Int) : Int := if m = 0 then k else (k % 4294967296) / p2 m
theorem b_ushr {k m : Int} (hm : 0 ≤ m ∧ m ≤ 7) : ((iI k).toUInt32 >>> ((iI m).toUInt32 &&& Int32.toUInt32 31)).toInt32 = iI (us k m) := by
  have key : ∀ n : Nat, n < 8 → (((iI (n : Int)).toUInt32 &&& Int32.toUInt32 31).toBitVec % 32).toNat = n := by decide +kernel
  obtain ⟨n, rfl⟩ := Int.eq_ofNat_of_zero_le hm.1
  have h := pk_ushr (iI k) (iI (n : Int)) n (key n (by omega))
  apply Int32.toBitVec_inj.mp
  apply BitVec.eq_of_toNat_eq
  rw [h, iI_bv, iI_bv, BitVec.toNat_ofInt, BitVec.toNat_ofInt]
  have e : p2 (n : Int) = ((2 ^ n : Nat) : Int) := by
    unfold p2
    rw [Int.toNat_natCast]
    simp
  unfold us
  have h1 : 0 ≤ k % 4294967296 := Int.emod_nonneg _ (by omega)
  have h2 : k % 4294967296 < 4294967296 := Int.emod_lt_of_pos _ (by omega)
  by_cases h0 : (n : Int) = 0
  · have hn0 : n = 0 := by omega
    subst hn0
    rw [if_pos h0]
    simp
  · rw [if_neg h0, e]
    obtain ⟨a, ha⟩ := Int.eq_ofNat_of_zero_le h1
    show (k % 4294967296).toNat / 2 ^ n = (k % 4294967296 / ((2 ^ n : Nat) : Int) % 4294967296).toNat
    rw [ha]
    have h3 : (a : Int) / ((2 ^ n : Nat) : Int) = ((a / 2 ^ n : Nat) : Int) := (Int.natCast_ediv a (2 ^ n)).symm
    rw [h3]
    have h4 : a / 2 ^ n ≤ a := Nat.div_le_self _ _
    rw [ha] at h2
    have h5 : ((a / 2 ^ n : Nat) : Int) ≤ (a : Int) := by exact_mod_cast h4
    rw [Int.emod_eq_of_lt (Int.natCast_nonneg _) (by omega), Int.toNat_natCast, Int.toNat_natCast]
theorem us_b {k m : Int} (hk : InR k) (hm : 0 ≤ m ∧ m ≤ 7) : InR (us k m) ∧ (us k m = 0 ↔ 0 ≤ k ∧ k < p2 m) := by
  unfold InR at hk
  have hp := p2_n hm
  unfold us
  by_cases h0 : m = 0
  · rw [if_pos h0, h0]
    have : p2 0 = 1 := rfl
    refine ⟨hk, ?_⟩
    rw [this]
    omega
  · rw [if_neg h0]
    have h1 : 0 ≤ k % 4294967296 := Int.emod_nonneg _ (by omega)
    have h2 : k % 4294967296 < 4294967296 := Int.emod_lt_of_pos _ (by omega)
    have h3 := p2_lt (k := 0) (n := m) (by omega) (by omega) (by omega)
    have h4 : p2 0 = 1 := rfl
    have h5 : 0 ≤ k % 4294967296 / p2 m := Int.ediv_nonneg h1 (by omega)
    have h6 : k % 4294967296 / p2 m * p2 m ≤ k % 4294967296 := Int.ediv_mul_le _ (by omega)
    have h7 : 2 * (k % 4294967296 / p2 m) ≤ k % 4294967296 / p2 m * p2 m := by
      rw [Int.mul_comm]
      exact Int.mul_le_mul_of_nonneg_left (by omega) h5
    refine ⟨⟨by omega, by omega⟩, ?_, fun h => ?_⟩
    · intro hz
      have h8 := Int.emod_add_mul_ediv (k % 4294967296) (p2 m)
      rw [hz, Int.mul_zero] at h8
      have h9 := Int.emod_lt_of_pos (k % 4294967296) (show 0 < p2 m by omega)
      omega
    · rw [Int.emod_eq_of_lt h.1 (by omega)]
      exact Int.ediv_eq_zero_of_lt h.1 h.2
theorem lk3 {z : Int} (h : z = 0 ∨ z = 1 ∨ z = 2 ∨ z = 3) : True := trivial
set_option maxHeartbeats 4000000 in
set_option maxRecDepth 100000 in
theorem k_X6_total (E0 : EV) {ad : Int → Nat} {σ : St} (hC : CI σ) : MGE E0 yX6_total wsX6_total 5 114 ad σ [.ref (ad 0)] (PI (fun z σ' => z = RW σ (AW σ) 0 0 ∧ QQ σ σ')) := by
  refine MGE.of (cc := cX6_total) (maxL := 1) (ret := (some .int)) (own := RX6) [some (.ref (ad 0))] (by decide +kernel) rfl rfl (Nat.le_of_ble_eq_true rfl) rfl rfl (fun E X hr => ?_)
  have i6 : ∀ w ∈ wsX60, w ∈ wsX6_total := by decide +kernel
  refine g_rg (fun hR0 => ?_)
  have hT0 := hC.1 0 (by omega) (by omega)
  have hT5 := hC.1 5 (by omega) (by omega)
  have hm := hT0.1
  have hn := hT0.2.1
  refine g_aload0 X dX6_total_0 ?_
  refine gf_6_plans X i6 (by decide +kernel) dX6_total_1 ?_
  refine g_I0 X (k_X1_leastTotal E hT0) gX6_total_X1_leastTotal rfl (by decide +kernel) (by decide) ob_3 (Nat.le_of_ble_eq_true rfl) dX6_total_4 (fun z4 σ4 hz4 hp4 => ?_)
  refine g_rg (fun hR4 => ?_)
  exact g_iret X hr (by first | exact hR4 _ _ | exact hR0 _ _ | assumption | (unfold InR; omega)) ⟨hp4.1, hp4.2.1.qq hT5⟩ dX6_total_7

set_option maxHeartbeats 4000000 in
set_option maxRecDepth 100000 in
theorem k_X6_taskOf (E0 : EV) {ad : Int → Nat} {σ : St} {x1 : Int} (hC : CI σ)(hx1 : InR x1) : MGE E0 yX6_taskOf wsX6_taskOf 6 136 ad σ [.ref (ad 0), .int (iI x1)] (PI (fun z σ' => z = (if 0 ≤ x1 ∧ x1 < σ (TB 0) 0 then (if fP σ x1 = -1 then -4 else fP σ x1) else -1) ∧ QQ σ σ')) := by
  refine MGE.of (cc := cX6_taskOf) (maxL := 3) (ret := (some .int)) (own := RX6) [some (.ref (ad 0)), some (.int (iI x1)), none] (by decide +kernel) rfl rfl (Nat.le_of_ble_eq_true rfl) rfl rfl (fun E X hr => ?_)
  have i1 : ∀ w ∈ wsX10, w ∈ wsX6_taskOf := by decide +kernel
  have i6 : ∀ w ∈ wsX60, w ∈ wsX6_taskOf := by decide +kernel
  refine g_rg (fun hR0 => ?_)
  have hT0 := hC.1 0 (by omega) (by omega)
  have hT5 := hC.1 5 (by omega) (by omega)
  have hm := hT0.1
  have hn := hT0.2.1
  have hw := iW_01 σ x1
  refine g_aload0 X dX6_taskOf_0 ?_
  refine g_iload1 X dX6_taskOf_1 ?_
  refine g_F1 X (k_X6_isWorker E hT0 hx1) gX6_taskOf_X6_isWorker rfl (by decide +kernel) (by decide) ob_0 (Nat.le_of_ble_eq_true rfl) dX6_taskOf_2 (fun hz2 => ?_)
  refine g_rg (fun hR2 => ?_)
  refine g_if_ne (tgt := 10) X (by first | exact hR2 _ _ | exact hR0 _ _ | assumption | (unfold InR; omega)) dX6_taskOf_5 (by decide) (fun h5 => ?_) (fun h5 => ?_)
  · skip
    refine g_aload0 X dX6_taskOf_10 ?_
    refine gf_6_plans X i6 (by decide +kernel) dX6_taskOf_11 ?_
    refine g_V0 X (k_X1_chooseFirst E hT0) gX6_taskOf_X1_chooseFirst rfl (by decide +kernel) (by decide) ob_3 (Nat.le_of_ble_eq_true rfl) dX6_taskOf_14 (fun σ14 hp14 => ?_)
    refine g_rg (fun hR14 => ?_)
    have hT1 := hp14.tok hT0
    have hCh := hp14.chp hT0
    have e0 : σ14 (TB 0) 0 = σ (TB 0) 0 := hp14.1 _ _ (by unfold TB; omega) (by unfold TB; omega) (by unfold TB; omega)
    have e1 : σ14 (TB 0) 1 = σ (TB 0) 1 := hp14.1 _ _ (by unfold TB; omega) (by unfold TB; omega) (by unfold TB; omega)
    have ew := hp14.2.2 x1 (by omega) (by omega)
    have ef := fP_r hT0 x1
    refine g_aload0 X dX6_taskOf_17 ?_
    refine gf_6_plans X i6 (by decide +kernel) dX6_taskOf_18 ?_
    refine gf_1_chosen X i1 (by decide +kernel) dX6_taskOf_21 ?_
    refine g_iload1 X dX6_taskOf_24 ?_
    refine g_iald X (ia_4 (by omega)) dX6_taskOf_25 ?_
    refine g_istore2 X dX6_taskOf_26 (by decide) (by first | exact Or.inl rfl | exact Or.inr ⟨_, rfl, rfl⟩) ?_
    refine g_iload2 X dX6_taskOf_27 ?_
    refine g_iconst X dX6_taskOf_28 ?_
    refine g_icmp_ne (tgt := 37) X (by first | exact hR14 _ _ | exact hR2 _ _ | exact hR0 _ _ | assumption | (unfold InR; omega)) (by first | exact hR14 _ _ | exact hR2 _ _ | exact hR0 _ _ | assumption | (unfold InR; omega)) dX6_taskOf_29 (by decide) (fun h29 => ?_) (fun h29 => ?_)
    · skip
      refine g_iload2 X dX6_taskOf_37 ?_
      exact g_iret X hr (by first | exact hR14 _ _ | exact hR2 _ _ | exact hR0 _ _ | assumption | (unfold InR; omega)) ⟨by rw [if_pos (by omega)]; first | (rw [if_pos (by omega)]; done) | (rw [if_neg (by omega), ew]; done), hp14.qq hT5⟩ dX6_taskOf_38
    · skip
      refine g_bipush X dX6_taskOf_32 (by decide +kernel) ?_
      refine g_goto (tgt := 38) X dX6_taskOf_34 (by decide) ?_
      exact g_iret X hr (by first | exact hR14 _ _ | exact hR2 _ _ | exact hR0 _ _ | assumption | (unfold InR; omega)) ⟨by rw [if_pos (by omega)]; first | (rw [if_pos (by omega)]; done) | (rw [if_neg (by omega), ew]; done), hp14.qq hT5⟩ dX6_taskOf_38
  · skip
    refine g_iconst X dX6_taskOf_8 ?_
    exact g_iret X hr (by first | exact hR2 _ _ | exact hR0 _ _ | assumption | (unfold InR; omega)) ⟨(by repeat (first | rw [if_pos (by omega)] | rw [if_neg (by omega)]); all_goals omega), QQ.rf hT5⟩ dX6_taskOf_9

set_option maxHeartbeats 4000000 in
set_option maxRecDepth 100000 in
theorem k_X6_workerOf (E0 : EV) {ad : Int → Nat} {σ : St} {x1 : Int} (hC : CI σ)(hx1 : InR x1) : MGE E0 yX6_workerOf wsX6_workerOf 6 136 ad σ [.ref (ad 0), .int (iI x1)] (PI (fun z σ' => z = (if 0 ≤ x1 ∧ x1 < σ (TB 0) 1 then (if wOf σ x1 = -1 then -4 else wOf σ x1) else -1) ∧ QQ σ σ')) := by
  refine MGE.of (cc := cX6_workerOf) (maxL := 3) (ret := (some .int)) (own := RX6) [some (.ref (ad 0)), some (.int (iI x1)), none] (by decide +kernel) rfl rfl (Nat.le_of_ble_eq_true rfl) rfl rfl (fun E X hr => ?_)
  have i1 : ∀ w ∈ wsX10, w ∈ wsX6_workerOf := by decide +kernel
  have i4 : ∀ w ∈ wsX40, w ∈ wsX6_workerOf := by decide +kernel
  have i6 : ∀ w ∈ wsX60, w ∈ wsX6_workerOf := by decide +kernel
  refine g_rg (fun hR0 => ?_)
  have hT0 := hC.1 0 (by omega) (by omega)
  have hT5 := hC.1 5 (by omega) (by omega)
  have hm := hT0.1
  have hn := hT0.2.1
  have hw := iK_01 σ x1
  refine g_aload0 X dX6_workerOf_0 ?_
  refine g_iload1 X dX6_workerOf_1 ?_
  refine g_F1 X (k_X6_isTask E hT0 hx1) gX6_workerOf_X6_isTask rfl (by decide +kernel) (by decide) ob_0 (Nat.le_of_ble_eq_true rfl) dX6_workerOf_2 (fun hz2 => ?_)
  refine g_rg (fun hR2 => ?_)
  refine g_if_ne (tgt := 10) X (by first | exact hR2 _ _ | exact hR0 _ _ | assumption | (unfold InR; omega)) dX6_workerOf_5 (by decide) (fun h5 => ?_) (fun h5 => ?_)
  · skip
    refine g_aload0 X dX6_workerOf_10 ?_
    refine gf_6_plans X i6 (by decide +kernel) dX6_workerOf_11 ?_
    refine g_V0 X (k_X1_chooseFirst E hT0) gX6_workerOf_X1_chooseFirst rfl (by decide +kernel) (by decide) ob_3 (Nat.le_of_ble_eq_true rfl) dX6_workerOf_14 (fun σ14 hp14 => ?_)
    refine g_rg (fun hR14 => ?_)
    have hT1 := hp14.tok hT0
    have hCh := hp14.chp hT0
    have e0 : σ14 (TB 0) 0 = σ (TB 0) 0 := hp14.1 _ _ (by unfold TB; omega) (by unfold TB; omega) (by unfold TB; omega)
    have e1 : σ14 (TB 0) 1 = σ (TB 0) 1 := hp14.1 _ _ (by unfold TB; omega) (by unfold TB; omega) (by unfold TB; omega)
    refine g_iconst X dX6_workerOf_17 ?_
    refine g_istore2 X dX6_workerOf_18 (by decide) (by first | exact Or.inl rfl | exact Or.inr ⟨_, rfl, rfl⟩) ?_
    have L19 : ∀ (n19 : Nat) (i : Int), (σ (TB 0) 0 - i).toNat < n19 → (0 ≤ i ∧ i ≤ σ (TB 0) 0) → (wOf σ x1 = fsP (fun w => decide (fP σ w = x1)) (σ (TB 0) 0) (σ (TB 0) 0 - i).toNat) → WG E ad 3 σ14 19 [some (.ref (ad 0)), some (.int (iI x1)), some (.int (iI i))] [] := by
      intro n19
      induction n19 with
      | zero => intro i hn; exact absurd hn (Nat.not_lt_zero _)
      | succ n19 ih19 =>
        intro i hn19 hi hs
        refine g_rg (fun hRL19 => ?_)
        refine g_iload2 X dX6_workerOf_19 ?_
        refine g_aload0 X dX6_workerOf_20 ?_
        refine gf_6_table X i6 (by decide +kernel) dX6_workerOf_21 ?_
        refine gf_4_workers X (by omega) i4 (by decide +kernel) dX6_workerOf_24 ?_
        refine g_icmp_ge (tgt := 51) X (by first | exact hRL19 _ _ | exact hR14 _ _ | exact hR2 _ _ | exact hR0 _ _ | assumption | (unfold InR; omega)) (by first | exact hRL19 _ _ | exact hR14 _ _ | exact hR2 _ _ | exact hR0 _ _ | assumption | (unfold InR; omega)) dX6_workerOf_27 (by decide) (fun h27 => ?_) (fun h27 => ?_)
        · skip
          refine g_bipush X dX6_workerOf_51 (by decide +kernel) ?_
          exact g_iret X hr (by first | exact hRL19 _ _ | exact hR14 _ _ | exact hR2 _ _ | exact hR0 _ _ | assumption | (unfold InR; omega)) ⟨by rw [if_pos (by omega), hs, show (σ (TB 0) 0 - i).toNat = 0 by omega]; rfl, hp14.qq hT5⟩ dX6_workerOf_53
        · skip
          have ew := hp14.2.2 i hi.1 (by omega)
          refine g_aload0 X dX6_workerOf_30 ?_
          refine gf_6_plans X i6 (by decide +kernel) dX6_workerOf_31 ?_
          refine gf_1_chosen X i1 (by decide +kernel) dX6_workerOf_34 ?_
          refine g_iload2 X dX6_workerOf_37 ?_
          refine g_iald X (ia_4 (by omega)) dX6_workerOf_38 ?_
          refine g_iload1 X dX6_workerOf_39 ?_
          refine g_icmp_ne (tgt := 45) X (by first | exact hRL19 _ _ | exact hR14 _ _ | exact hR2 _ _ | exact hR0 _ _ | assumption | (unfold InR; omega)) (by first | exact hRL19 _ _ | exact hR14 _ _ | exact hR2 _ _ | exact hR0 _ _ | assumption | (unfold InR; omega)) dX6_workerOf_40 (by decide) (fun h40 => ?_) (fun h40 => ?_)
          · skip
            refine g_iinc2 X dX6_workerOf_45 (by decide) (by first | exact Or.inl rfl | exact Or.inr ⟨_, rfl, rfl⟩) ?_
            refine g_goto (tgt := 19) X dX6_workerOf_48 (by decide) ?_
            refine ih19 _ (by omega) ?_ ?_
            · omega
            · rw [hs, fsP_s ⟨hi.1, by omega⟩, if_neg (by rw [← ew]; simpa using h40)]
          · skip
            refine g_iload2 X dX6_workerOf_43 ?_
            exact g_iret X hr (by first | exact hRL19 _ _ | exact hR14 _ _ | exact hR2 _ _ | exact hR0 _ _ | assumption | (unfold InR; omega)) (by
    have hsv : wOf σ x1 = i := by
      rw [hs, fsP_s ⟨hi.1, by omega⟩]
      simp [← ew, h40]
    exact ⟨by rw [if_pos (by omega), hsv, if_neg (by omega)], hp14.qq hT5⟩) dX6_workerOf_44
    refine L19 _ _ (Nat.lt_succ_self _) ?_ ?_
    · omega
    · rw [Int.sub_zero]
      rfl
  · skip
    refine g_iconst X dX6_workerOf_8 ?_
    exact g_iret X hr (by first | exact hR2 _ _ | exact hR0 _ _ | assumption | (unfold InR; omega)) ⟨(by repeat (first | rw [if_pos (by omega)] | rw [if_neg (by omega)]); all_goals omega), QQ.rf hT5⟩ dX6_workerOf_9

set_option maxHeartbeats 4000000 in
set_option maxRecDepth 100000 in
theorem k_X6_price (E0 : EV) {ad : Int → Nat} {σ : St} {x1 x2 : Int} (hC : CI σ)(hx1 : InR x1)(hx2 : InR x2) : MGE E0 yX6_price wsX6_price 6 138 ad σ [.ref (ad 0), .int (iI x1), .int (iI x2)] (PI (fun z σ' => z = (if (0 ≤ x1 ∧ x1 < σ (TB 0) 1) ∧ 0 ≤ x2 ∧ x2 ≤ 1 then (if x2 = 1 then grP σ x1 else lpP σ x1) else -1) ∧ QQ σ σ')) := by
  refine MGE.of (cc := cX6_price) (maxL := 3) (ret := (some .int)) (own := RX6) [some (.ref (ad 0)), some (.int (iI x1)), some (.int (iI x2))] (by decide +kernel) rfl rfl (Nat.le_of_ble_eq_true rfl) rfl rfl (fun E X hr => ?_)
  have i2 : ∀ w ∈ wsX20, w ∈ wsX6_price := by decide +kernel
  have i6 : ∀ w ∈ wsX60, w ∈ wsX6_price := by decide +kernel
  refine g_rg (fun hR0 => ?_)
  have hT0 := hC.1 0 (by omega) (by omega)
  have hT5 := hC.1 5 (by omega) (by omega)
  have hm := hT0.1
  have hn := hT0.2.1
  have hw := iK_01 σ x1
  refine g_aload0 X dX6_price_0 ?_
  refine g_iload1 X dX6_price_1 ?_
  refine g_F1 X (k_X6_isTask E hT0 hx1) gX6_price_X6_isTask rfl (by decide +kernel) (by decide) ob_0 (Nat.le_of_ble_eq_true rfl) dX6_price_2 (fun hz2 => ?_)
  refine g_rg (fun hR2 => ?_)
  refine g_if_eq (tgt := 17) X (by first | exact hR2 _ _ | exact hR0 _ _ | assumption | (unfold InR; omega)) dX6_price_5 (by decide) (fun h5 => ?_) (fun h5 => ?_)
  · skip
    refine g_iconst X dX6_price_17 ?_
    exact g_iret X hr (by first | exact hR2 _ _ | exact hR0 _ _ | assumption | (unfold InR; omega)) ⟨(by repeat (first | rw [if_pos (by omega)] | rw [if_neg (by omega)]); all_goals omega), QQ.rf hT5⟩ dX6_price_18
  · skip
    refine g_iload2 X dX6_price_8 ?_
    refine g_if_lt (tgt := 17) X (by first | exact hR2 _ _ | exact hR0 _ _ | assumption | (unfold InR; omega)) dX6_price_9 (by decide) (fun h9 => ?_) (fun h9 => ?_)
    · skip
      refine g_iconst X dX6_price_17 ?_
      exact g_iret X hr (by first | exact hR2 _ _ | exact hR0 _ _ | assumption | (unfold InR; omega)) ⟨(by repeat (first | rw [if_pos (by omega)] | rw [if_neg (by omega)]); all_goals omega), QQ.rf hT5⟩ dX6_price_18
    · skip
      refine g_iload2 X dX6_price_12 ?_
      refine g_iconst X dX6_price_13 ?_
      refine g_icmp_le (tgt := 19) X (by first | exact hR2 _ _ | exact hR0 _ _ | assumption | (unfold InR; omega)) (by first | exact hR2 _ _ | exact hR0 _ _ | assumption | (unfold InR; omega)) dX6_price_14 (by decide) (fun h14 => ?_) (fun h14 => ?_)
      · skip
        refine g_iload2 X dX6_price_19 ?_
        refine g_iconst X dX6_price_20 ?_
        refine g_icmp_ne (tgt := 33) X (by first | exact hR2 _ _ | exact hR0 _ _ | assumption | (unfold InR; omega)) (by first | exact hR2 _ _ | exact hR0 _ _ | assumption | (unfold InR; omega)) dX6_price_21 (by decide) (fun h21 => ?_) (fun h21 => ?_)
        · skip
          refine g_aload0 X dX6_price_33 ?_
          refine gf_6_prices X i6 (by decide +kernel) dX6_price_34 ?_
          refine g_V0 X (k_X2_findLeast E hT0) gX6_price_X2_findLeast rfl (by decide +kernel) (by decide) ob_6 (Nat.le_of_ble_eq_true rfl) dX6_price_37 (fun σ37 hp37 => ?_)
          refine g_rg (fun hR37 => ?_)
          refine g_aload0 X dX6_price_40 ?_
          refine gf_6_prices X i6 (by decide +kernel) dX6_price_41 ?_
          refine gf_2_least X i2 (by decide +kernel) dX6_price_44 ?_
          refine g_iload1 X dX6_price_47 ?_
          refine g_iald X (ia_7 (by omega)) dX6_price_48 ?_
          exact g_iret X hr (by first | exact hR37 _ _ | exact hR2 _ _ | exact hR0 _ _ | assumption | (unfold InR; omega)) ⟨by rw [if_pos (by omega), if_neg (by omega), hp37.2 x1 (by omega) (by omega)], hp37.1.qq hT5⟩ dX6_price_49
        · skip
          refine g_aload0 X dX6_price_24 ?_
          refine gf_6_prices X i6 (by decide +kernel) dX6_price_25 ?_
          refine g_iload1 X dX6_price_28 ?_
          refine g_I1 X (k_X2_greatestOf E hT0 (by omega)) gX6_price_X2_greatestOf rfl (by decide +kernel) (by decide) ob_6 (Nat.le_of_ble_eq_true rfl) dX6_price_29 (fun z29 σ29 hz29 hp29 => ?_)
          refine g_rg (fun hR29 => ?_)
          exact g_iret X hr (by first | exact hR29 _ _ | exact hR2 _ _ | exact hR0 _ _ | assumption | (unfold InR; omega)) ⟨by rw [if_pos (by omega), if_pos (by omega), hp29.1], hp29.2.qq hT5⟩ dX6_price_32
      · skip
        refine g_iconst X dX6_price_17 ?_
        exact g_iret X hr (by first | exact hR2 _ _ | exact hR0 _ _ | assumption | (unfold InR; omega)) ⟨(by repeat (first | rw [if_pos (by omega)] | rw [if_neg (by omega)]); all_goals omega), QQ.rf hT5⟩ dX6_price_18

set_option maxHeartbeats 4000000 in
set_option maxRecDepth 100000 in
theorem k_X6_workerIs (E0 : EV) {ad : Int → Nat} {σ : St} {x1 x2 : Int} (hC : CI σ)(hx1 : InR x1)(hx2 : InR x2) : MGE E0 yX6_workerIs wsX6_workerIs 6 138 ad σ [.ref (ad 0), .int (iI x1), .int (iI x2)] (PI (fun z σ' => z = (if (0 ≤ x1 ∧ x1 < σ (TB 0) 0) ∧ 0 ≤ x2 ∧ x2 ≤ 3 then (if x2 = 3 then shR σ x1 else if x2 = 0 then wOP σ x1 else if x2 = 1 then tgP σ x1 else if wOP σ x1 = σ (TI 0) x1 then 1 else 0) else -1) ∧ QQ σ σ')) := by
  refine MGE.of (cc := cX6_workerIs) (maxL := 3) (ret := (some .int)) (own := RX6) [some (.ref (ad 0)), some (.int (iI x1)), some (.int (iI x2))] (by decide +kernel) rfl rfl (Nat.le_of_ble_eq_true rfl) rfl rfl (fun E X hr => ?_)
  have i4 : ∀ w ∈ wsX40, w ∈ wsX6_workerIs := by decide +kernel
  have i6 : ∀ w ∈ wsX60, w ∈ wsX6_workerIs := by decide +kernel
  refine g_rg (fun hR0 => ?_)
  have hT0 := hC.1 0 (by omega) (by omega)
  have hT5 := hC.1 5 (by omega) (by omega)
  have hm := hT0.1
  have hn := hT0.2.1
  have hw := iW_01 σ x1
  refine g_aload0 X dX6_workerIs_0 ?_
  refine g_iload1 X dX6_workerIs_1 ?_
  refine g_F1 X (k_X6_isWorker E hT0 hx1) gX6_workerIs_X6_isWorker rfl (by decide +kernel) (by decide) ob_0 (Nat.le_of_ble_eq_true rfl) dX6_workerIs_2 (fun hz2 => ?_)
  refine g_rg (fun hR2 => ?_)
  refine g_if_eq (tgt := 17) X (by first | exact hR2 _ _ | exact hR0 _ _ | assumption | (unfold InR; omega)) dX6_workerIs_5 (by decide) (fun h5 => ?_) (fun h5 => ?_)
  · skip
    refine g_iconst X dX6_workerIs_17 ?_
    exact g_iret X hr (by first | exact hR2 _ _ | exact hR0 _ _ | assumption | (unfold InR; omega)) ⟨(by repeat (first | rw [if_pos (by omega)] | rw [if_neg (by omega)]); all_goals omega), QQ.rf hT5⟩ dX6_workerIs_18
  · skip
    refine g_iload2 X dX6_workerIs_8 ?_
    refine g_if_lt (tgt := 17) X (by first | exact hR2 _ _ | exact hR0 _ _ | assumption | (unfold InR; omega)) dX6_workerIs_9 (by decide) (fun h9 => ?_) (fun h9 => ?_)
    · skip
      refine g_iconst X dX6_workerIs_17 ?_
      exact g_iret X hr (by first | exact hR2 _ _ | exact hR0 _ _ | assumption | (unfold InR; omega)) ⟨(by repeat (first | rw [if_pos (by omega)] | rw [if_neg (by omega)]); all_goals omega), QQ.rf hT5⟩ dX6_workerIs_18
    · skip
      refine g_iload2 X dX6_workerIs_12 ?_
      refine g_iconst X dX6_workerIs_13 ?_
      refine g_icmp_le (tgt := 19) X (by first | exact hR2 _ _ | exact hR0 _ _ | assumption | (unfold InR; omega)) (by first | exact hR2 _ _ | exact hR0 _ _ | assumption | (unfold InR; omega)) dX6_workerIs_14 (by decide) (fun h14 => ?_) (fun h14 => ?_)
      · skip
        refine g_iload2 X dX6_workerIs_19 ?_
        refine g_iconst X dX6_workerIs_20 ?_
        refine g_icmp_ne (tgt := 48) X (by first | exact hR2 _ _ | exact hR0 _ _ | assumption | (unfold InR; omega)) (by first | exact hR2 _ _ | exact hR0 _ _ | assumption | (unfold InR; omega)) dX6_workerIs_21 (by decide) (fun h21 => ?_) (fun h21 => ?_)
        · skip
          refine g_aload0 X dX6_workerIs_48 ?_
          refine gf_6_prices X i6 (by decide +kernel) dX6_workerIs_49 ?_
          refine g_V0 X (k_X2_findLeast E hT0) gX6_workerIs_X2_findLeast rfl (by decide +kernel) (by decide) ob_6 (Nat.le_of_ble_eq_true rfl) dX6_workerIs_52 (fun σ52 hp52 => ?_)
          refine g_rg (fun hR52 => ?_)
          have hT1 := hp52.1.tok hT0
          have hPL := hp52.pl hT0
          obtain ⟨e0, e1, e2, e3⟩ := hp52.at hT0
          have ewo := wOP_of hT0 hp52 (w := x1) (by omega)
          have etg := tgP_of hT0 hp52 (w := x1) (by omega)
          have e2x := e2 x1
          refine g_iload2 X dX6_workerIs_55 ?_
          rcases (show x2 = 0 ∨ x2 = 1 ∨ x2 = 2 by omega) with h56 | h56 | h56
          · skip
            refine g_look (tgt := 84) X (by first | exact hR52 _ _ | exact hR2 _ _ | exact hR0 _ _ | assumption | (unfold InR; omega)) dX6_workerIs_56 (by decide) (by rw [h56]; try rfl) (by decide) ?_
            refine g_aload0 X dX6_workerIs_84 ?_
            refine gf_6_prices X i6 (by decide +kernel) dX6_workerIs_85 ?_
            refine g_iload1 X dX6_workerIs_88 ?_
            refine g_F1 X (k_X2_worthOf E hT1 hPL (by omega)) gX6_workerIs_X2_worthOf rfl (by decide +kernel) (by decide) ob_6 (Nat.le_of_ble_eq_true rfl) dX6_workerIs_89 (fun hz89 => ?_)
            refine g_rg (fun hR89 => ?_)
            exact g_iret X hr (by first | exact hR89 _ _ | exact hR52 _ _ | exact hR2 _ _ | exact hR0 _ _ | assumption | (unfold InR; omega)) ⟨by rw [if_pos (by omega), if_neg (by omega), if_pos (by omega), ewo], hp52.1.qq hT5⟩ dX6_workerIs_92
          · skip
            refine g_look (tgt := 93) X (by first | exact hR52 _ _ | exact hR2 _ _ | exact hR0 _ _ | assumption | (unfold InR; omega)) dX6_workerIs_56 (by decide) (by rw [h56]; try rfl) (by decide) ?_
            refine g_aload0 X dX6_workerIs_93 ?_
            refine gf_6_prices X i6 (by decide +kernel) dX6_workerIs_94 ?_
            refine g_iload1 X dX6_workerIs_97 ?_
            refine g_F1 X (k_X2_tightTasksOf E hT1 hPL (by omega)) gX6_workerIs_X2_tightTasksOf rfl (by decide +kernel) (by decide) ob_6 (Nat.le_of_ble_eq_true rfl) dX6_workerIs_98 (fun hz98 => ?_)
            refine g_rg (fun hR98 => ?_)
            exact g_iret X hr (by first | exact hR98 _ _ | exact hR52 _ _ | exact hR2 _ _ | exact hR0 _ _ | assumption | (unfold InR; omega)) ⟨by rw [if_pos (by omega), if_neg (by omega), if_neg (by omega), if_pos (by omega), etg], hp52.1.qq hT5⟩ dX6_workerIs_101
          · skip
            refine g_look (tgt := 102) X (by first | exact hR52 _ _ | exact hR2 _ _ | exact hR0 _ _ | assumption | (unfold InR; omega)) dX6_workerIs_56 (by decide) (by rw [h56]; try rfl) (by decide) ?_
            refine g_aload0 X dX6_workerIs_102 ?_
            refine gf_6_prices X i6 (by decide +kernel) dX6_workerIs_103 ?_
            refine g_iload1 X dX6_workerIs_106 ?_
            refine g_F1 X (k_X2_worthOf E hT1 hPL (by omega)) gX6_workerIs_X2_worthOf rfl (by decide +kernel) (by decide) ob_6 (Nat.le_of_ble_eq_true rfl) dX6_workerIs_107 (fun hz107 => ?_)
            refine g_rg (fun hR107 => ?_)
            refine g_aload0 X dX6_workerIs_110 ?_
            refine gf_6_table X i6 (by decide +kernel) dX6_workerIs_111 ?_
            refine gf_4_idleCosts X (by omega) i4 (by decide +kernel) dX6_workerIs_114 ?_
            refine g_iload1 X dX6_workerIs_117 ?_
            refine g_iald X (ia_TI (by omega) (by omega)) dX6_workerIs_118 ?_
            refine g_icmp_ne (tgt := 126) X (by first | exact hR107 _ _ | exact hR52 _ _ | exact hR2 _ _ | exact hR0 _ _ | assumption | (unfold InR; omega)) (by first | exact hR107 _ _ | exact hR52 _ _ | exact hR2 _ _ | exact hR0 _ _ | assumption | (unfold InR; omega)) dX6_workerIs_119 (by decide) (fun h119 => ?_) (fun h119 => ?_)
            · skip
              refine g_iconst X dX6_workerIs_126 ?_
              exact g_iret X hr (by first | exact hR107 _ _ | exact hR52 _ _ | exact hR2 _ _ | exact hR0 _ _ | assumption | (unfold InR; omega)) ⟨by rw [if_pos (by omega), if_neg (by omega), if_neg (by omega), if_neg (by omega), ← ewo, ← e2x]; first | (rw [if_pos (by omega)]; done) | (rw [if_neg (by omega)]; done), hp52.1.qq hT5⟩ dX6_workerIs_127
            · skip
              refine g_iconst X dX6_workerIs_122 ?_
              refine g_goto (tgt := 127) X dX6_workerIs_123 (by decide) ?_
              exact g_iret X hr (by first | exact hR107 _ _ | exact hR52 _ _ | exact hR2 _ _ | exact hR0 _ _ | assumption | (unfold InR; omega)) ⟨by rw [if_pos (by omega), if_neg (by omega), if_neg (by omega), if_neg (by omega), ← ewo, ← e2x]; first | (rw [if_pos (by omega)]; done) | (rw [if_neg (by omega)]; done), hp52.1.qq hT5⟩ dX6_workerIs_127
        · skip
          refine g_aload0 X dX6_workerIs_24 ?_
          refine gf_6_plans X i6 (by decide +kernel) dX6_workerIs_25 ?_
          refine g_I0 X (k_X1_leastTotal E hT0) gX6_workerIs_X1_leastTotal rfl (by decide +kernel) (by decide) ob_3 (Nat.le_of_ble_eq_true rfl) dX6_workerIs_28 (fun z28 σ28 hz28 hp28 => ?_)
          refine g_rg (fun hR28 => ?_)
          have hF := hp28.2.1
          have hT1 := hT0.of hF
          have e0 : σ28 (TB 0) 0 = σ (TB 0) 0 := hF _ _ (by unfold TB; omega)
          have hub := ub_AW hT0 (w := x1) (by omega)
          have eA : ub (p2 (σ28 (TB 0) 0) - 1) x1 = ub (AW σ) x1 := by unfold AW; rw [e0]
          refine g_aload0 X dX6_workerIs_31 ?_
          refine gf_6_plans X i6 (by decide +kernel) dX6_workerIs_32 ?_
          refine g_aload0 X dX6_workerIs_35 ?_
          refine gf_6_table X i6 (by decide +kernel) dX6_workerIs_36 ?_
          refine g_iload1 X dX6_workerIs_39 ?_
          refine g_F1 X (k_X4_allWorkersBut E (by omega) (by omega) (by omega)) gX6_workerIs_X4_allWorkersBut rfl (by decide +kernel) (by decide) (ob_TB (by omega)) (Nat.le_of_ble_eq_true rfl) dX6_workerIs_40 (fun hz40 => ?_)
          refine g_rg (fun hR40 => ?_)
          rw [eA]
          refine g_I1 X (k_X1_leastTotalOf E hT1 (by omega)) gX6_workerIs_X1_leastTotalOf rfl (by decide +kernel) (by decide) ob_3 (Nat.le_of_ble_eq_true rfl) dX6_workerIs_43 (fun z43 σ43 hz43 hp43 => ?_)
          refine g_rg (fun hR43 => ?_)
          have ez : z43 = RW σ (ub (AW σ) x1) 0 0 := by rw [hp43.1, RW_FR hT0 hF _ _ _ (by omega)]
          have hb1 := RW_b hT0 (AW σ) 0 0 (by omega)
          have hb2 := RW_b hT0 (ub (AW σ) x1) 0 0 (by omega)
          have hz28 := hp28.1
          refine g_isub X dX6_workerIs_46 ?_
          exact g_iret X hr (by first | exact hR43 _ _ | exact hR40 _ _ | exact hR28 _ _ | exact hR2 _ _ | exact hR0 _ _ | assumption | (unfold InR; omega)) ⟨by rw [if_pos (by omega), if_pos (by omega), ez, hz28]; rfl, (hF.qq hT5).tr (hp43.2.1.qq (hT5.keep (fun q k a b => hF q k (by unfold TB at b; omega))))⟩ dX6_workerIs_47
      · skip
        refine g_iconst X dX6_workerIs_17 ?_
        exact g_iret X hr (by first | exact hR2 _ _ | exact hR0 _ _ | assumption | (unfold InR; omega)) ⟨(by repeat (first | rw [if_pos (by omega)] | rw [if_neg (by omega)]); all_goals omega), QQ.rf hT5⟩ dX6_workerIs_18

set_option maxHeartbeats 4000000 in
set_option maxRecDepth 100000 in
theorem k_X6_proof (E0 : EV) {ad : Int → Nat} {σ : St} (hC : CI σ) : MGE E0 yX6_proof wsX6_proof 6 138 ad σ [.ref (ad 0)] (PI (fun z σ' => z = sWP σ - sLP σ ∧ QQ σ σ')) := by
  refine MGE.of (cc := cX6_proof) (maxL := 1) (ret := (some .int)) (own := RX6) [some (.ref (ad 0))] (by decide +kernel) rfl rfl (Nat.le_of_ble_eq_true rfl) rfl rfl (fun E X hr => ?_)
  have i6 : ∀ w ∈ wsX60, w ∈ wsX6_proof := by decide +kernel
  refine g_rg (fun hR0 => ?_)
  have hT0 := hC.1 0 (by omega) (by omega)
  have hT5 := hC.1 5 (by omega) (by omega)
  have hm := hT0.1
  have hn := hT0.2.1
  refine g_aload0 X dX6_proof_0 ?_
  refine gf_6_prices X i6 (by decide +kernel) dX6_proof_1 ?_
  refine g_V0 X (k_X2_findLeast E hT0) gX6_proof_X2_findLeast rfl (by decide +kernel) (by decide) ob_6 (Nat.le_of_ble_eq_true rfl) dX6_proof_4 (fun σ4 hp4 => ?_)
  refine g_rg (fun hR4 => ?_)
  have hT1 := hp4.1.tok hT0
  have hPL := hp4.pl hT0
  obtain ⟨e0, e1, e2, e3⟩ := hp4.at hT0
  have ew := sWP_of hT0 hp4
  have el := sLP_of hT0 hp4
  refine g_aload0 X dX6_proof_7 ?_
  refine gf_6_prices X i6 (by decide +kernel) dX6_proof_8 ?_
  refine g_F0 X (k_X2_sumOfWorths E hT1 hPL) gX6_proof_X2_sumOfWorths rfl (by decide +kernel) (by decide) ob_6 (Nat.le_of_ble_eq_true rfl) dX6_proof_11 (fun hz11 => ?_)
  refine g_rg (fun hR11 => ?_)
  refine g_aload0 X dX6_proof_14 ?_
  refine gf_6_prices X i6 (by decide +kernel) dX6_proof_15 ?_
  refine g_F0 X (k_X2_sumOfLeast E hT1 hPL) gX6_proof_X2_sumOfLeast rfl (by decide +kernel) (by decide) ob_6 (Nat.le_of_ble_eq_true rfl) dX6_proof_18 (fun hz18 => ?_)
  refine g_rg (fun hR18 => ?_)
  have hb1 := sW_b hT1 hPL
  have hb2 := sL_b hT1 hPL
  refine g_isub X dX6_proof_21 ?_
  exact g_iret X hr (by first | exact hR18 _ _ | exact hR11 _ _ | exact hR4 _ _ | exact hR0 _ _ | assumption | (unfold InR; omega)) ⟨by rw [ew, el], hp4.1.qq hT5⟩ dX6_proof_22

set_option maxHeartbeats 4000000 in
set_option maxRecDepth 100000 in
theorem k_X6_count (E0 : EV) {ad : Int → Nat} {σ : St} {x1 : Int} (hC : CI σ)(hx1 : InR x1) : MGE E0 yX6_count wsX6_count 6 138 ad σ [.ref (ad 0), .int (iI x1)] (PI (fun z σ' => z = (if x1 = 0 then σ (TB 0) 0 else if x1 = 1 then σ (TB 0) 1 else if x1 = 2 then oP σ 0 (σ (TB 0) 1) (σ (TB 0) 0) else if x1 = 3 then cPP σ else if x1 = 4 then tPP σ else if x1 = 5 then sLP σ else if x1 = 6 then sG σ (σ (TB 0) 1) else if x1 = 7 then σ 1 0 else if x1 = 8 then σ 8 0 else -1) ∧ QQ σ σ')) := by
  refine MGE.of (cc := cX6_count) (maxL := 2) (ret := (some .int)) (own := RX6) [some (.ref (ad 0)), some (.int (iI x1))] (by decide +kernel) rfl rfl (Nat.le_of_ble_eq_true rfl) rfl rfl (fun E X hr => ?_)
  have i0 : ∀ w ∈ wsX00, w ∈ wsX6_count := by decide +kernel
  have i4 : ∀ w ∈ wsX40, w ∈ wsX6_count := by decide +kernel
  have i5 : ∀ w ∈ wsX50, w ∈ wsX6_count := by decide +kernel
  have i6 : ∀ w ∈ wsX60, w ∈ wsX6_count := by decide +kernel
  refine g_rg (fun hR0 => ?_)
  have hT0 := hC.1 0 (by omega) (by omega)
  have hT5 := hC.1 5 (by omega) (by omega)
  have hm := hT0.1
  have hn := hT0.2.1
  refine g_iload1 X dX6_count_0 ?_
  by_cases h1 : 0 ≤ x1 ∧ x1 ≤ 8
  · skip
    rcases (show x1 = 0 ∨ x1 = 1 ∨ x1 = 2 ∨ x1 = 3 ∨ x1 = 4 ∨ x1 = 5 ∨ x1 = 6 ∨ x1 = 7 ∨ x1 = 8 by omega) with g1 | g1 | g1 | g1 | g1 | g1 | g1 | g1 | g1
    · skip
      refine g_tin (tgt := 52) X (by first | exact hR0 _ _ | assumption | (unfold InR; omega)) dX6_count_1 (by omega) (by omega) (by rw [g1]; try rfl) (by decide) ?_
      refine g_aload0 X dX6_count_52 ?_
      refine gf_6_table X i6 (by decide +kernel) dX6_count_53 ?_
      refine gf_4_workers X (by omega) i4 (by decide +kernel) dX6_count_56 ?_
      exact g_iret X hr (by first | exact hR0 _ _ | assumption | (unfold InR; omega)) ⟨by rw [if_pos (by omega)], QQ.rf hT5⟩ dX6_count_59
    · skip
      refine g_tin (tgt := 60) X (by first | exact hR0 _ _ | assumption | (unfold InR; omega)) dX6_count_1 (by omega) (by omega) (by rw [g1]; try rfl) (by decide) ?_
      refine g_aload0 X dX6_count_60 ?_
      refine gf_6_table X i6 (by decide +kernel) dX6_count_61 ?_
      refine gf_4_tasks X (by omega) i4 (by decide +kernel) dX6_count_64 ?_
      exact g_iret X hr (by first | exact hR0 _ _ | assumption | (unfold InR; omega)) ⟨by rw [if_neg (by omega), if_pos (by omega)], QQ.rf hT5⟩ dX6_count_67
    · skip
      refine g_tin (tgt := 68) X (by first | exact hR0 _ _ | assumption | (unfold InR; omega)) dX6_count_1 (by omega) (by omega) (by rw [g1]; try rfl) (by decide) ?_
      refine g_aload0 X dX6_count_68 ?_
      refine gf_6_table X i6 (by decide +kernel) dX6_count_69 ?_
      refine g_F0 X (k_X4_openPairs E (by omega) hm hn) gX6_count_X4_openPairs rfl (by decide +kernel) (by decide) (ob_TB (by omega)) (Nat.le_of_ble_eq_true rfl) dX6_count_72 (fun hz72 => ?_)
      refine g_rg (fun hR72 => ?_)
      exact g_iret X hr (by first | exact hR72 _ _ | exact hR0 _ _ | assumption | (unfold InR; omega)) ⟨by rw [if_neg (by omega), if_neg (by omega), if_pos (by omega)], QQ.rf hT5⟩ dX6_count_75
    · skip
      refine g_tin (tgt := 76) X (by first | exact hR0 _ _ | assumption | (unfold InR; omega)) dX6_count_1 (by omega) (by omega) (by rw [g1]; try rfl) (by decide) ?_
      refine g_aload0 X dX6_count_76 ?_
      refine gf_6_plans X i6 (by decide +kernel) dX6_count_77 ?_
      refine g_V0 X (k_X1_chooseFirst E hT0) gX6_count_X1_chooseFirst rfl (by decide +kernel) (by decide) ob_3 (Nat.le_of_ble_eq_true rfl) dX6_count_80 (fun σ80 hp80 => ?_)
      refine g_rg (fun hR80 => ?_)
      have hT1 := hp80.tok hT0
      have hm1 := hT1.1
      have ec := cPP_of hT0 hp80
      refine g_aload0 X dX6_count_83 ?_
      refine gf_6_plans X i6 (by decide +kernel) dX6_count_84 ?_
      refine g_F0 X (k_X1_chosenPairs E hm1) gX6_count_X1_chosenPairs rfl (by decide +kernel) (by decide) ob_3 (Nat.le_of_ble_eq_true rfl) dX6_count_87 (fun hz87 => ?_)
      refine g_rg (fun hR87 => ?_)
      exact g_iret X hr (by first | exact hR87 _ _ | exact hR80 _ _ | exact hR0 _ _ | assumption | (unfold InR; omega)) ⟨by rw [if_neg (by omega), if_neg (by omega), if_neg (by omega), if_pos (by omega)]; exact ec, hp80.qq hT5⟩ dX6_count_90
    · skip
      refine g_tin (tgt := 91) X (by first | exact hR0 _ _ | assumption | (unfold InR; omega)) dX6_count_1 (by omega) (by omega) (by rw [g1]; try rfl) (by decide) ?_
      refine g_aload0 X dX6_count_91 ?_
      refine gf_6_prices X i6 (by decide +kernel) dX6_count_92 ?_
      refine g_V0 X (k_X2_findLeast E hT0) gX6_count_X2_findLeast rfl (by decide +kernel) (by decide) ob_6 (Nat.le_of_ble_eq_true rfl) dX6_count_95 (fun σ95 hp95 => ?_)
      refine g_rg (fun hR95 => ?_)
      have hT1 := hp95.1.tok hT0
      have hPL := hp95.pl hT0
      obtain ⟨e0, e1, e2, e3⟩ := hp95.at hT0
      have et := tPP_of hT0 hp95
      refine g_aload0 X dX6_count_98 ?_
      refine gf_6_prices X i6 (by decide +kernel) dX6_count_99 ?_
      refine g_F0 X (k_X2_tightPairs E hT1 hPL) gX6_count_X2_tightPairs rfl (by decide +kernel) (by decide) ob_6 (Nat.le_of_ble_eq_true rfl) dX6_count_102 (fun hz102 => ?_)
      refine g_rg (fun hR102 => ?_)
      exact g_iret X hr (by first | exact hR102 _ _ | exact hR95 _ _ | exact hR0 _ _ | assumption | (unfold InR; omega)) ⟨by rw [if_neg (by omega), if_neg (by omega), if_neg (by omega), if_neg (by omega), if_pos (by omega)]; exact et, hp95.1.qq hT5⟩ dX6_count_105
    · skip
      refine g_tin (tgt := 106) X (by first | exact hR0 _ _ | assumption | (unfold InR; omega)) dX6_count_1 (by omega) (by omega) (by rw [g1]; try rfl) (by decide) ?_
      refine g_aload0 X dX6_count_106 ?_
      refine gf_6_prices X i6 (by decide +kernel) dX6_count_107 ?_
      refine g_V0 X (k_X2_findLeast E hT0) gX6_count_X2_findLeast rfl (by decide +kernel) (by decide) ob_6 (Nat.le_of_ble_eq_true rfl) dX6_count_110 (fun σ110 hp110 => ?_)
      refine g_rg (fun hR110 => ?_)
      have hT1 := hp110.1.tok hT0
      have hPL := hp110.pl hT0
      obtain ⟨e0, e1, e2, e3⟩ := hp110.at hT0
      have el := sLP_of hT0 hp110
      refine g_aload0 X dX6_count_113 ?_
      refine gf_6_prices X i6 (by decide +kernel) dX6_count_114 ?_
      refine g_F0 X (k_X2_sumOfLeast E hT1 hPL) gX6_count_X2_sumOfLeast rfl (by decide +kernel) (by decide) ob_6 (Nat.le_of_ble_eq_true rfl) dX6_count_117 (fun hz117 => ?_)
      refine g_rg (fun hR117 => ?_)
      exact g_iret X hr (by first | exact hR117 _ _ | exact hR110 _ _ | exact hR0 _ _ | assumption | (unfold InR; omega)) ⟨by rw [if_neg (by omega), if_neg (by omega), if_neg (by omega), if_neg (by omega), if_neg (by omega), if_pos (by omega)]; exact el, hp110.1.qq hT5⟩ dX6_count_120
    · skip
      refine g_tin (tgt := 121) X (by first | exact hR0 _ _ | assumption | (unfold InR; omega)) dX6_count_1 (by omega) (by omega) (by rw [g1]; try rfl) (by decide) ?_
      refine g_aload0 X dX6_count_121 ?_
      refine gf_6_prices X i6 (by decide +kernel) dX6_count_122 ?_
      refine g_I0 X (k_X2_sumOfGreatest E hT0) gX6_count_X2_sumOfGreatest rfl (by decide +kernel) (by decide) ob_6 (Nat.le_of_ble_eq_true rfl) dX6_count_125 (fun z125 σ125 hz125 hp125 => ?_)
      refine g_rg (fun hR125 => ?_)
      exact g_iret X hr (by first | exact hR125 _ _ | exact hR0 _ _ | assumption | (unfold InR; omega)) ⟨by rw [if_neg (by omega), if_neg (by omega), if_neg (by omega), if_neg (by omega), if_neg (by omega), if_neg (by omega), if_pos (by omega)]; exact hp125.1, hp125.2.qq hT5⟩ dX6_count_128
    · skip
      refine g_tin (tgt := 129) X (by first | exact hR0 _ _ | assumption | (unfold InR; omega)) dX6_count_1 (by omega) (by omega) (by rw [g1]; try rfl) (by decide) ?_
      refine g_aload0 X dX6_count_129 ?_
      refine gf_6_history X i6 (by decide +kernel) dX6_count_130 ?_
      refine gf_0_size X i0 (by decide +kernel) dX6_count_133 ?_
      exact g_iret X hr (by first | exact hR0 _ _ | assumption | (unfold InR; omega)) ⟨by rw [if_neg (by omega), if_neg (by omega), if_neg (by omega), if_neg (by omega), if_neg (by omega), if_neg (by omega), if_neg (by omega), if_pos (by omega)], QQ.rf hT5⟩ dX6_count_136
    · skip
      refine g_tin (tgt := 137) X (by first | exact hR0 _ _ | assumption | (unfold InR; omega)) dX6_count_1 (by omega) (by omega) (by rw [g1]; try rfl) (by decide) ?_
      refine g_aload0 X dX6_count_137 ?_
      refine gf_6_text X i6 (by decide +kernel) dX6_count_138 ?_
      refine gf_5_length X i5 (by decide +kernel) dX6_count_141 ?_
      exact g_iret X hr (by first | exact hR0 _ _ | assumption | (unfold InR; omega)) ⟨by rw [if_neg (by omega), if_neg (by omega), if_neg (by omega), if_neg (by omega), if_neg (by omega), if_neg (by omega), if_neg (by omega), if_neg (by omega), if_pos (by omega)], QQ.rf hT5⟩ dX6_count_144
  · skip
    refine g_tout (tgt := 145) X (by first | exact hR0 _ _ | assumption | (unfold InR; omega)) dX6_count_1 (by omega) (by decide) ?_
    refine g_iconst X dX6_count_145 ?_
    exact g_iret X hr (by first | exact hR0 _ _ | assumption | (unfold InR; omega)) ⟨by rw [if_neg (by omega), if_neg (by omega), if_neg (by omega), if_neg (by omega), if_neg (by omega), if_neg (by omega), if_neg (by omega), if_neg (by omega), if_neg (by omega)], QQ.rf hT5⟩ dX6_count_146

set_option maxHeartbeats 4000000 in
set_option maxRecDepth 100000 in
theorem k_X6_fault (E0 : EV) {ad : Int → Nat} {σ : St} {x1 : Int} (hC : CI σ)(hx1 : InR x1) : MGE E0 yX6_fault wsX6_fault 6 131 ad σ [.ref (ad 0), .int (iI x1)] (PI (fun z σ' => z = (if 0 ≤ x1 ∧ x1 ≤ 1 then (if (rwR (σ 9) (σ 8 0)).2.2.1 = 0 then -4 else if x1 = 0 then (rwR (σ 9) (σ 8 0)).2.1 else (rwR (σ 9) (σ 8 0)).2.2.1) else -1) ∧ QQ σ σ')) := by
  refine MGE.of (cc := cX6_fault) (maxL := 2) (ret := (some .int)) (own := RX6) [some (.ref (ad 0)), some (.int (iI x1))] (by decide +kernel) rfl rfl (Nat.le_of_ble_eq_true rfl) rfl rfl (fun E X hr => ?_)
  have i3 : ∀ w ∈ wsX30, w ∈ wsX6_fault := by decide +kernel
  have i6 : ∀ w ∈ wsX60, w ∈ wsX6_fault := by decide +kernel
  refine g_rg (fun hR0 => ?_)
  have hT0 := hC.1 0 (by omega) (by omega)
  have hT5 := hC.1 5 (by omega) (by omega)
  have hm := hT0.1
  have hn := hT0.2.1
  refine g_iload1 X dX6_fault_0 ?_
  refine g_if_lt (tgt := 9) X (by first | exact hR0 _ _ | assumption | (unfold InR; omega)) dX6_fault_1 (by decide) (fun h1 => ?_) (fun h1 => ?_)
  · skip
    refine g_iconst X dX6_fault_9 ?_
    exact g_iret X hr (by first | exact hR0 _ _ | assumption | (unfold InR; omega)) ⟨(by repeat (first | rw [if_pos (by omega)] | rw [if_neg (by omega)]); all_goals omega), QQ.rf hT5⟩ dX6_fault_10
  · skip
    refine g_iload1 X dX6_fault_4 ?_
    refine g_iconst X dX6_fault_5 ?_
    refine g_icmp_le (tgt := 11) X (by first | exact hR0 _ _ | assumption | (unfold InR; omega)) (by first | exact hR0 _ _ | assumption | (unfold InR; omega)) dX6_fault_6 (by decide) (fun h6 => ?_) (fun h6 => ?_)
    · skip
      refine g_aload0 X dX6_fault_11 ?_
      refine gf_6_reader X i6 (by decide +kernel) dX6_fault_12 ?_
      refine g_V0 X (k_X3_readText E hC.2.2 hT5) gX6_fault_X3_readText rfl (by decide +kernel) (by decide) ob_10 (Nat.le_of_ble_eq_true rfl) dX6_fault_15 (fun σ15 hp15 => ?_)
      refine g_rg (fun hR15 => ?_)
      obtain ⟨t1, t2, t3, t4, t5⟩ := hp15
      have hq : QQ σ σ15 := ⟨fun q k h3 h4 h7 h10 h5 => t4 q k h10 (by omega), t3⟩
      refine g_aload0 X dX6_fault_18 ?_
      refine gf_6_reader X i6 (by decide +kernel) dX6_fault_19 ?_
      refine gf_3_reason X i3 (by decide +kernel) dX6_fault_22 ?_
      refine g_if_ne (tgt := 31) X (by first | exact hR15 _ _ | exact hR0 _ _ | assumption | (unfold InR; omega)) dX6_fault_25 (by decide) (fun h25 => ?_) (fun h25 => ?_)
      · skip
        refine g_iload1 X dX6_fault_31 ?_
        refine g_if_ne (tgt := 45) X (by first | exact hR15 _ _ | exact hR0 _ _ | assumption | (unfold InR; omega)) dX6_fault_32 (by decide) (fun h32 => ?_) (fun h32 => ?_)
        · skip
          refine g_aload0 X dX6_fault_45 ?_
          refine gf_6_reader X i6 (by decide +kernel) dX6_fault_46 ?_
          refine gf_3_reason X i3 (by decide +kernel) dX6_fault_49 ?_
          exact g_iret X hr (by first | exact hR15 _ _ | exact hR0 _ _ | assumption | (unfold InR; omega)) ⟨by rw [if_pos (by omega), if_neg (by omega)]; first | (rw [if_pos (by omega), t1]; done) | (rw [if_neg (by omega), t2]; done), hq⟩ dX6_fault_52
        · skip
          refine g_aload0 X dX6_fault_35 ?_
          refine gf_6_reader X i6 (by decide +kernel) dX6_fault_36 ?_
          refine gf_3_place X i3 (by decide +kernel) dX6_fault_39 ?_
          refine g_goto (tgt := 52) X dX6_fault_42 (by decide) ?_
          exact g_iret X hr (by first | exact hR15 _ _ | exact hR0 _ _ | assumption | (unfold InR; omega)) ⟨by rw [if_pos (by omega), if_neg (by omega)]; first | (rw [if_pos (by omega), t1]; done) | (rw [if_neg (by omega), t2]; done), hq⟩ dX6_fault_52
      · skip
        refine g_bipush X dX6_fault_28 (by decide +kernel) ?_
        exact g_iret X hr (by first | exact hR15 _ _ | exact hR0 _ _ | assumption | (unfold InR; omega)) ⟨by rw [if_pos (by omega), if_pos (by omega)], hq⟩ dX6_fault_30
    · skip
      refine g_iconst X dX6_fault_9 ?_
      exact g_iret X hr (by first | exact hR0 _ _ | assumption | (unfold InR; omega)) ⟨(by repeat (first | rw [if_pos (by omega)] | rw [if_neg (by omega)]); all_goals omega), QQ.rf hT5⟩ dX6_fault_10

set_option maxHeartbeats 4000000 in
set_option maxRecDepth 100000 in
theorem k_X6_read (E0 : EV) {ad : Int → Nat} {σ : St} (hC : CI σ) : MGE E0 yX6_read wsX6_read 6 131 ad σ [.ref (ad 0)] (PI (fun z σ' => ((rwR (σ 9) (σ 8 0)).2.2.1 ≠ 0 ∧ z = -2 ∧ QQ σ σ') ∨ ((rwR (σ 9) (σ 8 0)).2.2.1 = 0 ∧ ∃ σr : St, QQ σ σr ∧ σr (TB 5) 0 = (rwR (σ 9) (σ 8 0)).1 ∧ 1 ≤ (rwR (σ 9) (σ 8 0)).1 ∧ (rwR (σ 9) (σ 8 0)).1 ≤ 7 ∧ σr (TB 5) 1 = wiS (σ 9) (σ 8 0) ∧ RD (σ 9) (σ 8 0) σr (rwR (σ 9) (σ 8 0)).1 ∧ TOK (cpT (kp σr) 0 5) 0 ∧ z = RW (cpT (kp σr) 0 5) (AW (cpT (kp σr) 0 5)) 0 0 ∧ QQ (cpT (kp σr) 0 5) σ'))) := by
  refine MGE.of (cc := cX6_read) (maxL := 1) (ret := (some .int)) (own := RX6) [some (.ref (ad 0))] (by decide +kernel) rfl rfl (Nat.le_of_ble_eq_true rfl) rfl rfl (fun E X hr => ?_)
  have i3 : ∀ w ∈ wsX30, w ∈ wsX6_read := by decide +kernel
  have i6 : ∀ w ∈ wsX60, w ∈ wsX6_read := by decide +kernel
  refine g_rg (fun hR0 => ?_)
  have hT0 := hC.1 0 (by omega) (by omega)
  have hT5 := hC.1 5 (by omega) (by omega)
  have hm := hT0.1
  have hn := hT0.2.1
  refine g_aload0 X dX6_read_0 ?_
  refine gf_6_reader X i6 (by decide +kernel) dX6_read_1 ?_
  refine g_V0 X (k_X3_readText E hC.2.2 hT5) gX6_read_X3_readText rfl (by decide +kernel) (by decide) ob_10 (Nat.le_of_ble_eq_true rfl) dX6_read_4 (fun σ4 hp4 => ?_)
  refine g_rg (fun hR4 => ?_)
  obtain ⟨t1, t2, t3, t4, t5⟩ := hp4
  have hq : QQ σ σ4 := ⟨fun q k h3 h4 h7 h10 h5 => t4 q k h10 (by omega), t3⟩
  have hC4 := hC.of hq
  refine g_aload0 X dX6_read_7 ?_
  refine gf_6_reader X i6 (by decide +kernel) dX6_read_8 ?_
  refine gf_3_reason X i3 (by decide +kernel) dX6_read_11 ?_
  refine g_if_eq (tgt := 20) X (by first | exact hR4 _ _ | exact hR0 _ _ | assumption | (unfold InR; omega)) dX6_read_14 (by decide) (fun h14 => ?_) (fun h14 => ?_)
  · skip
    have hCk := hC4.kept
    have hTc : TOK (cpT (kp σ4) 0 5) 0 := (hCk.1 5 (by omega) (by omega)).cp
    have hT5c : TOK (cpT (kp σ4) 0 5) 5 := (hCk.1 5 (by omega) (by omega)).keep (fun q k a b => cpT_b.2.2.2 q k (by unfold TB at a b ⊢; omega))
    refine g_aload0 X dX6_read_20 ?_
    refine gf_6_history X i6 (by decide +kernel) dX6_read_21 ?_
    refine g_aload0 X dX6_read_24 ?_
    refine gf_6_table X i6 (by decide +kernel) dX6_read_25 ?_
    refine g_W1 X (k_X0_keep E hC4.2.1) gX6_read_X0_keep rfl (by decide +kernel) (by decide) ob_1 (Nat.le_of_ble_eq_true rfl) dX6_read_28 ?_
    refine g_rg (fun hR28 => ?_)
    refine g_aload0 X dX6_read_31 ?_
    refine gf_6_table X i6 (by decide +kernel) dX6_read_32 ?_
    refine g_aload0 X dX6_read_35 ?_
    refine gf_6_reader X i6 (by decide +kernel) dX6_read_36 ?_
    refine gf_3_found X i3 (by decide +kernel) dX6_read_39 ?_
    refine g_W1 X (k_X4_copyFrom E (by omega) (by omega)) gX6_read_X4_copyFrom rfl (by decide +kernel) (by decide) (ob_TB (by omega)) (Nat.le_of_ble_eq_true rfl) dX6_read_42 ?_
    refine g_rg (fun hR42 => ?_)
    refine g_aload0 X dX6_read_45 ?_
    refine gf_6_plans X i6 (by decide +kernel) dX6_read_46 ?_
    refine g_I0 X (k_X1_leastTotal E hTc) gX6_read_X1_leastTotal rfl (by decide +kernel) (by decide) ob_3 (Nat.le_of_ble_eq_true rfl) dX6_read_49 (fun z49 σ49 hz49 hp49 => ?_)
    refine g_rg (fun hR49 => ?_)
    exact g_iret X hr (by first | exact hR49 _ _ | exact hR42 _ _ | exact hR28 _ _ | exact hR4 _ _ | exact hR0 _ _ | assumption | (unfold InR; omega)) (Or.inr ⟨by omega, σ4, hq, (t5 (by omega)).2.1, (t5 (by omega)).2.2.1, (t5 (by omega)).2.2.2.1, (t5 (by omega)).2.2.2.2.1, (t5 (by omega)).2.2.2.2.2, hTc, hp49.1, hp49.2.1.qq hT5c⟩) dX6_read_52
  · skip
    refine g_bipush X dX6_read_17 (by decide +kernel) ?_
    exact g_iret X hr (by first | exact hR4 _ _ | exact hR0 _ _ | assumption | (unfold InR; omega)) (Or.inl ⟨by rw [← t2]; omega, rfl, hq⟩) dX6_read_19
