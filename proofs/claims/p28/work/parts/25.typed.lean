/-! THE TEXT THAT THE LAW TYPES: step by step -/
theorem RW_c {σ σ' : St} (hT : TOK σ 0) (hv : ∀ q k, 11 ≤ q → q ≤ 20 → σ' q k = σ q k) (wk w tk : Int) (hw : 0 ≤ w) : RW σ' wk w tk = RW σ wk w tk := by
  have hm := hT.1
  unfold RW LTc
  rw [hv (TB 0) 0 (by unfold TB; omega) (by unfold TB; omega), hv (TB 0) 1 (by unfold TB; omega) (by unfold TB; omega)]
  refine LT_congr hT.2.1.1 _ (fun v _ => hv _ _ (by unfold TI; omega) (by unfold TI; omega)) (fun v hvv j _ _ => ?_) tk
  have := wl_in _ v hvv
  exact hv _ _ (by unfold TR; omega) (by unfold TR; omega)
theorem AW_c {σ σ' : St} (hv : ∀ q k, 11 ≤ q → q ≤ 20 → σ' q k = σ q k) : AW σ' = AW σ := by
  unfold AW
  rw [hv (TB 0) 0 (by unfold TB; omega) (by unfold TB; omega)]

theorem RW_t {σ σ' : St} (hT : TOK σ 0) (hv : ∀ q k, 11 ≤ q → q ≤ 20 → σ' q k = σ q k) : RW σ' (AW σ') 0 0 = RW σ (AW σ) 0 0 := by
  rw [AW_c hv, RW_c hT hv _ _ _ (by omega)]
theorem RW_q {σ σ' : St} (hT : TOK σ 0) (hq : QQ σ σ') : RW σ' (AW σ') 0 0 = RW σ (AW σ) 0 0 := RW_t hT (fun q k a b => hq.1 q k (by omega) (by omega) (by omega) (by omega) (by omega))
theorem CI.tx {σ σ1 : St} (h : CI σ) (hv : ∀ q j, q ≠ 8 → q ≠ 9 → q < 79 → σ1 q j = σ q j) (hl : 0 ≤ σ1 8 0 ∧ σ1 8 0 ≤ 80) (h9 : ∀ j, 0 ≤ j → j < 80 → 0 ≤ σ1 9 j ∧ σ1 9 j < 65536) : CI σ1 := by
  obtain ⟨h1, h2, h3⟩ := h
  refine ⟨fun t a b => (h1 t a b).keep (fun q k c d => hv q k (by unfold TB at c; omega) (by unfold TB at c; omega) (by unfold TB at d; omega)), ?_, hl, h9⟩
  obtain ⟨g1, g2, g3⟩ := h2
  exact ⟨by rw [hv 1 0 (by omega) (by omega) (by omega)]; exact g1, fun i a b => by rw [hv 2 i (by omega) (by omega) (by omega)]; exact g2 i a b, fun i j a b c => by rw [hv 2 i (by omega) (by omega) (by omega), hv 2 j (by omega) (by omega) (by omega)]; exact g3 i j a b c⟩
theorem apT_l (σ : St) (c : Int) : apT σ c 8 0 = σ 8 0 + 1 := by
  unfold apT up
  rw [if_pos ⟨rfl, rfl⟩]
theorem apT_9 (σ : St) (c j : Int) : apT σ c 9 j = if j = σ 8 0 then c else σ 9 j := by
  unfold apT up
  rw [if_neg (by omega)]
  by_cases h : j = σ 8 0
  · rw [if_pos ⟨rfl, h⟩, if_pos h]
  · rw [if_neg (fun g => h g.2), if_neg h]
theorem apT_o (σ : St) (c : Int) {q j : Int} (h8 : q ≠ 8) (h9 : q ≠ 9) : apT σ c q j = σ q j := by
  unfold apT up
  rw [if_neg (fun g => h8 g.1), if_neg (fun g => h9 g.1)]
/-- what the first k entries leave -/
def MTC (σ1 : St) (W k : Int) (v : Int → Int) : Prop := ∀ i, 0 ≤ i → i < k → (-1 ≤ v i ∧ v i ≤ 999) ∧ (i % (W + 1) = W → σ1 81 (i / (W + 1)) = v i) ∧ (i % (W + 1) ≠ W → σ1 80 (7 * (i / (W + 1)) + i % (W + 1)) = v i)
def FRM (σ σ1 : St) : Prop := (∀ q j, q ≠ 8 → q ≠ 9 → q ≠ 80 → q ≠ 81 → σ1 q j = σ q j) ∧ ∀ j, 0 ≤ j → j < 80 → 0 ≤ σ1 9 j ∧ σ1 9 j < 65536
def RDI (σ σ1 : St) (W k : Int) : Prop := FRM σ σ1 ∧ ∃ f v : Int → Int, TXT (σ1 9) (σ1 8 0) W k f v ∧ f k ≤ 4 * k ∧ MTC σ1 W k v
/-- the same with the sign ahead of the next entry -/
def RDS (σ σ1 : St) (W k : Int) : Prop := FRM σ σ1 ∧ ∃ f v : Int → Int, (f 0 = 0 ∧ (∀ i, 0 ≤ i → i < k → f (i + 1) = f i + wd (v i) + 1 ∧ ENT (σ1 9) (f i) (v i) ∧ (i % (W + 1) = W → 0 ≤ v i) ∧ 0 ≤ f i ∧ f i + wd (v i) ≤ σ1 8 0) ∧ (∀ i, 0 < i → i < k + 1 → σ1 9 (f i - 1) = sepc W i) ∧ σ1 8 0 = f k) ∧ f k ≤ 4 * k ∧ MTC σ1 W k v
theorem RDI.b {σ σ1 : St} {W k : Int} (hk : 0 ≤ k ∧ k ≤ 16) (h : RDI σ σ1 W k) : 0 ≤ σ1 8 0 ∧ σ1 8 0 ≤ 64 := by
  obtain ⟨-, f, v, ⟨h1, h2, h3, h4⟩, h5, -⟩ := h
  by_cases h0 : k = 0
  · rw [if_pos h0] at h4; omega
  · rw [if_neg h0] at h4
    have h6 := h2 (k - 1) (by omega) (by omega)
    have hw := wd_b (v (k - 1))
    rw [show k - 1 + 1 = k by omega] at h6
    omega
theorem RDS.b {σ σ1 : St} {W k : Int} (hk : 0 ≤ k ∧ k ≤ 16) (h : RDS σ σ1 W k) : 0 ≤ σ1 8 0 ∧ σ1 8 0 ≤ 64 := by
  obtain ⟨-, f, v, ⟨h1, h2, h3, h4⟩, h5, -⟩ := h
  by_cases h0 : k = 0
  · rw [h0] at h4; omega
  · have h6 := h2 (k - 1) (by omega) (by omega)
    have hw := wd_b (v (k - 1))
    rw [show k - 1 + 1 = k by omega] at h6
    omega
theorem FRM.ci {σ σ1 : St} (h : CI σ) (hf : FRM σ σ1) (hl : 0 ≤ σ1 8 0 ∧ σ1 8 0 ≤ 80) : CI σ1 := h.tx (fun q j a b c => hf.1 q j a b (by omega) (by omega)) hl hf.2
theorem FRM.ap {σ σ1 : St} (hf : FRM σ σ1) {c : Int} (hc : 0 ≤ c ∧ c < 65536) : FRM σ (apT σ1 c) := by
  refine ⟨fun q j a b d e => by rw [apT_o σ1 c a b]; exact hf.1 q j a b d e, fun j a b => ?_⟩
  rw [apT_9]
  by_cases h : j = σ1 8 0
  · rw [if_pos h]; exact hc
  · rw [if_neg h]; exact hf.2 j a b
theorem RDI.s0 {σ σ1 : St} {W : Int} (h : RDI σ σ1 W 0) : RDS σ σ1 W 0 := by
  obtain ⟨h0, f, v, ⟨h1, h2, h3, h4⟩, h5, h6⟩ := h
  rw [if_pos rfl] at h4
  exact ⟨h0, f, v, ⟨h1, fun i a b => by omega, fun i a b => by omega, by omega⟩, h5, h6⟩
theorem RDI.sep {σ σ1 : St} {W k c : Int} (h : RDI σ σ1 W k) (hk : 0 < k) (hc : c = sepc W k) (hcb : 0 ≤ c ∧ c < 65536) : RDS σ (apT σ1 c) W k := by
  obtain ⟨h0, f, v, ⟨h1, h2, h3, h4⟩, h5, h6⟩ := h
  rw [if_neg (by omega)] at h4
  refine ⟨h0.ap hcb, f, v, ⟨h1, fun i a b => ?_, fun i a b => ?_, by rw [apT_l]; omega⟩, h5, fun i a b => ?_⟩
  · obtain ⟨g1, g2, g3, g4, g5⟩ := h2 i a b
    refine ⟨g1, g2.cg (fun j x y => by rw [apT_9, if_neg (by omega)]), g3, g4, by rw [apT_l]; omega⟩
  · rw [apT_9]
    by_cases hi : i = k
    · rw [hi, if_pos (by omega)]; exact hc
    · have h7 := h2 i (by omega) (by omega)
      have hw := wd_b (v i)
      rw [if_neg (by omega)]
      exact h3 i a (by omega)
  · obtain ⟨g1, g2, g3⟩ := h6 i a b
    exact ⟨g1, fun e => by rw [apT_o σ1 c (by omega) (by omega)]; exact g2 e, fun e => by rw [apT_o σ1 c (by omega) (by omega)]; exact g3 e⟩
/-- the entry x has been typed -/
def DGS (σ2 σ3 : St) (x : Int) : Prop := (∀ q j, q ≠ 8 → q ≠ 9 → σ3 q j = σ2 q j) ∧ (∀ j, j < σ2 8 0 → σ3 9 j = σ2 9 j) ∧ (∀ j, 0 ≤ j → j < 80 → 0 ≤ σ3 9 j ∧ σ3 9 j < 65536) ∧ ENT (σ3 9) (σ2 8 0) x ∧ σ3 8 0 = σ2 8 0 + wd x
/-- of its digits those above u -/
def DGI (σ2 σ3 : St) (v u : Int) : Prop := ((∀ q j, q ≠ 8 → q ≠ 9 → σ3 q j = σ2 q j) ∧ (∀ j, j < σ2 8 0 → σ3 9 j = σ2 9 j) ∧ ∀ j, 0 ≤ j → j < 80 → 0 ≤ σ3 9 j ∧ σ3 9 j < 65536) ∧
  ((u = 100 ∧ 100 ≤ v ∧ σ3 8 0 = σ2 8 0) ∨ (u = 10 ∧ 100 ≤ v ∧ σ3 8 0 = σ2 8 0 + 1 ∧ σ3 9 (σ2 8 0) = 48 + v / 100) ∨ (u = 10 ∧ (10 ≤ v ∧ v ≤ 99) ∧ σ3 8 0 = σ2 8 0) ∨ (u = 1 ∧ 100 ≤ v ∧ σ3 8 0 = σ2 8 0 + 2 ∧ σ3 9 (σ2 8 0) = 48 + v / 100 ∧ σ3 9 (σ2 8 0 + 1) = 48 + v / 10 % 10) ∨ (u = 1 ∧ (10 ≤ v ∧ v ≤ 99) ∧ σ3 8 0 = σ2 8 0 + 1 ∧ σ3 9 (σ2 8 0) = 48 + v / 10) ∨ (u = 1 ∧ v ≤ 9 ∧ σ3 8 0 = σ2 8 0) ∨ (u = 0 ∧ ENT (σ3 9) (σ2 8 0) v ∧ σ3 8 0 = σ2 8 0 + wd v))
theorem DGI.b {σ2 σ3 : St} {v u : Int} (h : DGI σ2 σ3 v u) : (σ2 8 0 ≤ σ3 8 0 ∧ σ3 8 0 ≤ σ2 8 0 + 3) ∧ (0 ≤ u ∧ u ≤ 100) ∧ (0 < u → σ3 8 0 ≤ σ2 8 0 + 2) := by
  have hw := wd_b v
  rcases h.2 with h | h | h | h | h | h | h <;> omega
theorem DGI.s {σ2 σ3 : St} {v u : Int} (h : DGI σ2 σ3 v u) (hv : 0 ≤ v ∧ v ≤ 999) (hu : 0 < u) : DGI σ2 (apT σ3 (48 + v / u % 10)) v (u / 10) := by
  obtain ⟨⟨a1, a2, a3⟩, h⟩ := h
  have hb : 0 ≤ v / u % 10 ∧ v / u % 10 ≤ 9 := by omega
  have hlen : σ2 8 0 ≤ σ3 8 0 := by
    have hw := wd_b v
    rcases h with h | h | h | h | h | h | h <;> omega
  refine ⟨⟨fun q j c d => by rw [apT_o σ3 _ c d]; exact a1 q j c d, fun j c => by rw [apT_9, if_neg (by omega)]; exact a2 j c, fun j c d => ?_⟩, ?_⟩
  · rw [apT_9]
    by_cases e : j = σ3 8 0
    · rw [if_pos e]; omega
    · rw [if_neg e]; exact a3 j c d
  · rcases h with ⟨e, h1, h2⟩ | ⟨e, h1, h2, h3⟩ | ⟨e, h1, h2⟩ | ⟨e, h1, h2, h3, h4⟩ | ⟨e, h1, h2, h3⟩ | ⟨e, h1, h2⟩ | ⟨e, h1⟩
    · rw [e]
      refine Or.inr (Or.inl ⟨by omega, h1, by rw [apT_l]; omega, ?_⟩)
      rw [apT_9, if_pos (by omega)]; omega
    · rw [e]
      refine Or.inr (Or.inr (Or.inr (Or.inl ⟨by omega, h1, by rw [apT_l]; omega, ?_, ?_⟩)))
      · rw [apT_9, if_neg (by omega)]; exact h3
      · rw [apT_9, if_pos (by omega)]
    · rw [e]
      refine Or.inr (Or.inr (Or.inr (Or.inr (Or.inl ⟨by omega, h1, by rw [apT_l]; omega, ?_⟩))))
      rw [apT_9, if_pos (by omega)]; omega
    · rw [e]
      refine Or.inr (Or.inr (Or.inr (Or.inr (Or.inr (Or.inr ⟨by omega, ?_, ?_⟩)))))
      · refine Or.inr (Or.inr (Or.inr ⟨⟨h1, hv.2⟩, ?_, ?_, ?_⟩))
        · rw [apT_9, if_neg (by omega)]; exact h3
        · rw [apT_9, if_neg (by omega)]; exact h4
        · rw [apT_9, if_pos (by omega)]; omega
      · rw [apT_l]; unfold wd; rw [if_neg (by omega), if_neg (by omega)]; omega
    · rw [e]
      refine Or.inr (Or.inr (Or.inr (Or.inr (Or.inr (Or.inr ⟨by omega, ?_, ?_⟩)))))
      · refine Or.inr (Or.inr (Or.inl ⟨h1, ?_, ?_⟩))
        · rw [apT_9, if_neg (by omega)]; exact h3
        · rw [apT_9, if_pos (by omega)]; omega
      · rw [apT_l]; unfold wd; rw [if_neg (by omega), if_pos (by omega)]; omega
    · rw [e]
      refine Or.inr (Or.inr (Or.inr (Or.inr (Or.inr (Or.inr ⟨by omega, ?_, ?_⟩)))))
      · refine Or.inr (Or.inl ⟨⟨hv.1, h1⟩, ?_⟩)
        rw [apT_9, if_pos (by omega)]; omega
      · rw [apT_l]; unfold wd; rw [if_pos h1]; omega
    · omega
theorem DGI.e {σ2 σ3 : St} {v u : Int} (h : DGI σ2 σ3 v u) (hu : u ≤ 0) : DGS σ2 σ3 v := by
  obtain ⟨⟨a1, a2, a3⟩, h⟩ := h
  rcases h with h | h | h | h | h | h | h
  · omega
  · omega
  · omega
  · omega
  · omega
  · omega
  · exact ⟨a1, a2, a3, h.2.1, h.2.2⟩
theorem DGS.x {σ2 : St} (h9 : ∀ j, 0 ≤ j → j < 80 → 0 ≤ σ2 9 j ∧ σ2 9 j < 65536) : DGS σ2 (apT σ2 120) (-1) := by
  refine ⟨fun q j a b => apT_o σ2 _ a b, fun j a => by rw [apT_9, if_neg (by omega)], fun j a b => ?_, Or.inl ⟨rfl, by rw [apT_9, if_pos rfl]⟩, ?_⟩
  · rw [apT_9]
    by_cases e : j = σ2 8 0
    · rw [if_pos e]; omega
    · rw [if_neg e]; exact h9 j a b
  · rw [apT_l]; unfold wd; rw [if_pos (by omega)]
theorem dm_inj {W a b : Int} (hW : W = 1 ∨ W = 2 ∨ W = 3) (h1 : a / (W + 1) = b / (W + 1)) (h2 : a % (W + 1) = b % (W + 1)) : a = b := by
  rcases hW with rfl | rfl | rfl <;> omega
theorem dm_b {W a R : Int} (hW : W = 1 ∨ W = 2 ∨ W = 3) (h0 : 0 ≤ a) (h1 : a < R * (W + 1)) (hR : R ≤ 4) : (0 ≤ a / (W + 1) ∧ a / (W + 1) < 4) ∧ 0 ≤ a % (W + 1) ∧ a % (W + 1) ≤ W := by
  rcases hW with rfl | rfl | rfl <;> omega
theorem rd_put {σ σ2 σ3 σ4 : St} {W k x : Int} (hW : W = 1 ∨ W = 2 ∨ W = 3) (hk : 0 ≤ k) (h : RDS σ σ2 W k) (hd : DGS σ2 σ3 x) (hx : -1 ≤ x ∧ x ≤ 999) (hx0 : k % (W + 1) = W → 0 ≤ x) (h4 : (k % (W + 1) = W ∧ σ4 = up σ3 81 (k / (W + 1)) x) ∨ (k % (W + 1) ≠ W ∧ σ4 = up σ3 80 (7 * (k / (W + 1)) + k % (W + 1)) x)) : RDI σ σ4 W (k + 1) := by
  obtain ⟨h0, f, v, ⟨h1, h2, h3, h4'⟩, h5, h6⟩ := h
  obtain ⟨d1, d2, d3, d4, d5⟩ := hd
  have o : ∀ q j, q ≠ 80 → q ≠ 81 → σ4 q j = σ3 q j := fun q j a b => by
    rcases h4 with ⟨-, e⟩ | ⟨-, e⟩
    · rw [e]; exact o_up b
    · rw [e]; exact o_up a
  have o9 : σ4 9 = σ3 9 := funext fun j => o 9 j (by omega) (by omega)
  have o8 : σ4 8 0 = σ3 8 0 := o 8 0 (by omega) (by omega)
  have hwx := wd_b x
  obtain ⟨f', hf'⟩ : ∃ f' : Int → Int, f' = fun i => if i = k + 1 then f k + wd x + 1 else f i := ⟨_, rfl⟩
  obtain ⟨v', hv'⟩ : ∃ v' : Int → Int, v' = fun i => if i = k then x else v i := ⟨_, rfl⟩
  have fk1 : f' (k + 1) = f k + wd x + 1 := by rw [hf']; exact if_pos rfl
  have fo : ∀ i, i ≠ k + 1 → f' i = f i := fun i a => by rw [hf']; exact if_neg a
  have vk : v' k = x := by rw [hv']; exact if_pos rfl
  have vo : ∀ i, i ≠ k → v' i = v i := fun i a => by rw [hv']; exact if_neg a
  clear hf' hv'
  have hfk : 0 ≤ f k := by
    by_cases e : k = 0
    · rw [e]; omega
    · have g := h2 (k - 1) (by omega) (by omega)
      have hw := wd_b (v (k - 1))
      rw [show k - 1 + 1 = k by omega] at g
      omega
  refine ⟨⟨fun q j a b c d => by rw [o q j c d, d1 q j a b]; exact h0.1 q j a b c d, fun j a b => by rw [o9]; exact d3 j a b⟩, f', v', ⟨by rw [fo 0 (by omega)]; exact h1, fun i a b => ?_, fun i a b => ?_, ?_⟩, ?_, fun i a b => ?_⟩
  · by_cases e : i = k
    · rw [e, fk1, fo k (by omega), vk, o9, o8, d5, h4']
      rw [h4'] at d4
      exact ⟨rfl, d4, hx0, hfk, by omega⟩
    · obtain ⟨g1, g2, g3, g4, g5⟩ := h2 i a (by omega)
      rw [fo (i + 1) (by omega), fo i (by omega), vo i e, o9, o8, d5]
      exact ⟨g1, g2.cg (fun j x1 y1 => d2 j (by omega)), g3, g4, by omega⟩
  · rw [fo i (by omega), o9]
    by_cases e : i = k
    · rw [e, d2 _ (by omega)]
      exact h3 k (by omega) (by omega)
    · have h7 := h2 i (by omega) (by omega)
      have hw := wd_b (v i)
      rw [d2 _ (by omega)]
      exact h3 i a (by omega)
  · rw [if_neg (by omega), fk1, o8, d5, h4']; omega
  · rw [fk1]; omega
  · by_cases e : i = k
    · rw [e, vk]
      refine ⟨hx, fun c => ?_, fun c => ?_⟩
      · rcases h4 with ⟨-, e4⟩ | ⟨e3, -⟩
        · rw [e4]; unfold up; rw [if_pos ⟨rfl, rfl⟩]
        · exact absurd c e3
      · rcases h4 with ⟨e3, -⟩ | ⟨-, e4⟩
        · exact absurd e3 c
        · rw [e4]; unfold up; rw [if_pos ⟨rfl, rfl⟩]
    · obtain ⟨g1, g2, g3⟩ := h6 i a (by omega)
      rw [vo i e]
      refine ⟨g1, fun c => ?_, fun c => ?_⟩
      · rcases h4 with ⟨e3, e4⟩ | ⟨-, e4⟩
        · rw [e4]; unfold up
          rw [if_neg (fun g => e (dm_inj hW g.2 (by omega))), d1 _ _ (by omega) (by omega)]
          exact g2 c
        · rw [e4, o_up (by omega), d1 _ _ (by omega) (by omega)]
          exact g2 c
      · rcases h4 with ⟨-, e4⟩ | ⟨-, e4⟩
        · rw [e4, o_up (by omega), d1 _ _ (by omega) (by omega)]
          exact g3 c
        · rw [e4]; unfold up
          have hi := dm_b (R := i + 1) hW a (by rcases hW with rfl | rfl | rfl <;> omega)
          rw [if_neg (fun g => e (by
            have q1 : 0 ≤ i % (W + 1) ∧ i % (W + 1) ≤ W := by rcases hW with rfl | rfl | rfl <;> omega
            have q2 : 0 ≤ k % (W + 1) ∧ k % (W + 1) ≤ W := by rcases hW with rfl | rfl | rfl <;> omega
            exact dm_inj hW (by omega) (by omega))), d1 _ _ (by omega) (by omega)]
          exact g3 c
theorem rd_0 {σ : St} {W : Int} (h8 : σ 8 0 = 0) (h9 : ∀ j, 0 ≤ j → j < 80 → 0 ≤ σ 9 j ∧ σ 9 j < 65536) : RDI σ σ W 0 :=
  ⟨⟨fun _ _ _ _ _ _ => rfl, h9⟩, fun _ => 0, fun _ => 0, ⟨rfl, fun i a b => by omega, fun i a b => by omega, by rw [if_pos rfl]; exact h8⟩, (by show (0 : Int) ≤ 4 * 0; omega), fun i a b => by omega⟩
/-- the text has been read: what the class has then is the law's -/
theorem rd_end {σ σ1 σ2 σr σ' : St} {W R : Int} (hL : LW σ) (hW : W = 1 ∨ W = 2 ∨ W = 3) (hR : 1 ≤ R ∧ R ≤ 4) (h : RDI σ σ1 W (R * (W + 1))) (h2 : ∀ q k, σ2 q k = if q = 79 ∧ k = 0 then R else if q = 79 ∧ k = 1 then W else σ1 q k) (hC2 : CI σ2) (hq : QQ σ2 σr) (y0 : σr (TB 5) 0 = (rwR (σ2 9) (σ2 8 0)).1) (y3 : σr (TB 5) 1 = wiS (σ2 9) (σ2 8 0)) (y4 : RD (σ2 9) (σ2 8 0) σr (rwR (σ2 9) (σ2 8 0)).1) (hT : TOK (cpT (kp σr) 0 5) 0) (hq2 : QQ (cpT (kp σr) 0 5) σ') : LW (up σ' 8 0 0) ∧ 0 < σ' 8 0 ∧ CI σ' ∧ (rwR (σ' 9) (σ' 8 0)).2.2.1 = 0 := by
  obtain ⟨hfr, f, v, hx, h5, hm⟩ := h
  have e9 : σ2 9 = σ1 9 := funext fun k => by rw [h2, if_neg (by omega), if_neg (by omega)]
  have e8 : σ2 8 0 = σ1 8 0 := by rw [h2, if_neg (by omega), if_neg (by omega)]
  rw [e9, e8] at y0 y3 y4
  obtain ⟨t1, t2, t3, t4⟩ := tx_all hW hR hx
  rw [t1] at y0 y4
  rw [t2] at y3
  have hCr := hC2.of hq
  have hHr := hCr.2.1
  obtain ⟨b0, b1, b2, b3⟩ := cpT_b (σ := kp σr) (t := 0) (u := 5)
  have ko := kp_o σr hHr
  have hpos : 0 < σ1 8 0 := by
    have h7 := hx.2.1 0 (by omega) (by rcases hW with rfl | rfl | rfl <;> omega)
    have hw := wd_b (v 0)
    omega
  have o : ∀ q k, (q = 8 ∨ q = 9 ∨ 79 ≤ q) → σ' q k = σ2 q k := fun q k a => by
    rw [hq2.1 q k (by omega) (by omega) (by omega) (by omega) (by omega), b3 q k (by unfold TB; omega), ko q k (by omega) (by omega) (by omega)]
    exact hq.1 q k (by omega) (by omega) (by omega) (by omega) (by omega)
  have hCc : CI (cpT (kp σr) 0 5) := hCr.kept.t0 (fun q k a b => b3 q k (by unfold TB; omega)) hT
  have hC' : CI σ' := hCc.of hq2
  have c0 : ∀ q k, 11 ≤ q → q ≤ 20 → σ' q k = cpT (kp σr) 0 5 q k := fun q k a b => hq2.1 q k (by omega) (by omega) (by omega) (by omega) (by omega)
  have hR4 := r_cp (s := kp σr)
  obtain ⟨r0, r1, r2, r3⟩ := hR4
  have k5 : ∀ q k, 61 ≤ q → kp σr q k = σr q k := fun q k a => ko q k (by omega) (by omega) (by omega)
  have e79 : ∀ k, σ' 79 k = σ2 79 k := fun k => o 79 k (by omega)
  have m0 : σ' (TB 0) 0 = R := by
    rw [c0 _ _ (by unfold TB; omega) (by unfold TB; omega), r0, k5 _ _ (by unfold TB; omega)]
    exact y0
  have m1 : σ' (TB 0) 1 = W := by
    rw [c0 _ _ (by unfold TB; omega) (by unfold TB; omega), r1, k5 _ _ (by unfold TB; omega)]
    exact y3
  have o8 : ∀ q k, q ≠ 8 → up σ' 8 0 0 q k = σ' q k := fun q k a => o_up a
  refine ⟨⟨hC'.tx (fun q j a _ _ => o8 q j a) (by unfold up; rw [if_pos ⟨rfl, rfl⟩]; omega) (fun j a b => by rw [o8 9 j (by omega)]; exact hC'.2.2.2 j a b), by unfold up; rw [if_pos ⟨rfl, rfl⟩], ?_, ?_, ?_, fun w a b => ?_, fun w j a b c d => ?_⟩, by rw [o 8 0 (by omega), e8]; exact hpos, hC', ?_⟩
  · rw [o8 _ _ (by unfold TB; omega), m1]; omega
  · rw [o8 79 0 (by omega), e79, h2, if_pos ⟨rfl, rfl⟩, o8 _ _ (by unfold TB; omega), m0]
  · rw [o8 79 1 (by omega), e79, h2, if_neg (by omega), if_pos ⟨rfl, rfl⟩, o8 _ _ (by unfold TB; omega), m1]
  · rw [o8 _ _ (by unfold TB; omega), m0] at b
    rw [o8 81 w (by omega), o 81 w (by omega), h2, if_neg (by omega), if_neg (by omega), o8 _ _ (by unfold TI; omega), c0 _ _ (by unfold TI; omega) (by unfold TI; omega), r2 w a (by omega)]
    show _ = kp σr (TI 5) w
    rw [k5 _ _ (by unfold TI; omega), y4.2 w a b, t4 w a b]
    have hl := ixl (w := w) (j := W) hW ⟨a, b⟩ (by omega)
    have h8 := (hm _ hl.1 hl.2).2.1 (ix (w := w) (j := W) hW (by omega)).2
    rw [(ix (w := w) (j := W) hW (by omega)).1] at h8
    exact h8
  · rw [o8 _ _ (by unfold TB; omega), m0] at b
    rw [o8 _ _ (by unfold TB; omega), m1] at d
    rw [o8 80 _ (by omega), o 80 _ (by omega), h2, if_neg (by omega), if_neg (by omega), o8 _ _ (by unfold TR; omega), c0 _ _ (by unfold TR; omega) (by unfold TR; omega), r3 w j a (by omega) c (by omega)]
    show _ = kp σr (TR 5 w) j
    rw [k5 _ _ (by unfold TR; omega), y4.1 w j a b c (by rw [t2]; exact d), t3 w j a b c d]
    have hl := ixl (w := w) (j := j) hW ⟨a, b⟩ (by omega)
    have hx2 := ix (w := w) (j := j) hW (by omega)
    have h8 := (hm _ hl.1 hl.2).2.2 (by rw [hx2.2]; omega)
    rw [hx2.1, hx2.2] at h8
    exact h8
  · rw [show σ' 9 = σ1 9 from funext fun k => by rw [o 9 k (by omega), e9], o 8 0 (by omega), e8, t1]

