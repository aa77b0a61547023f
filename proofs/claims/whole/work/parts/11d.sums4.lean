/-! THE SUMS: least prices, worths, the first plan -/
theorem nB_8 {σ : St} (hM : MT (σ 80)) {j : Int} (hj : 0 ≤ j ∧ j < 8) : nB (sb (KMM σ) 7) j = false ↔ j < σ 80 1 ∨ j = 7 := by
  have hk := KMM_b hM
  unfold nB
  rw [bt_sb (by omega) (by omega) hj]
  by_cases h : j = 7
  · simp [h]
  · rw [if_neg h, KMM_bt hM hj]
    by_cases h2 : j < σ 80 1
    · simp [h2]
    · simp [h2, h]
theorem e_lp {σ : St} (h : EQ0 σ) {t : Int} (ht : 0 ≤ t ∧ t < σ 80 1) : lpP σ t = lpV σ t := by
  have hM := h.1
  have hm := hM.1
  have hn := hM.2.1
  have hKb := KMM_b hM
  have hAb := AMM_b hM
  obtain ⟨σw, hσw⟩ : ∃ s : St, s = up σ 79 6 t := ⟨_, rfl⟩
  have e80' : σw 80 = σ 80 := by rw [hσw]; exact up_f (by omega)
  have ed : dM σw = dM σ := funext fun v => by unfold dM; rw [e80']
  have ec : ∀ v u, 0 ≤ v → cH σw v u = if u = 7 then cM σ v t else cM σ v u := fun v u a => by
    have c1 : σw 79 7 = -4 := by rw [hσw, up_o (by omega)]; exact h.2.1.2.1
    have c2 : σw 79 6 = t := by rw [hσw, up_e]
    unfold cH cHt cM
    rw [c1, c2, if_neg (by omega), e80']
    by_cases hu : u = 7
    · rw [if_pos hu, if_pos hu]
    · rw [if_neg hu, if_neg hu]
  have hs8 := sb256 (m := KMM σ) (k := 7) (by omega) (by omega)
  obtain ⟨V8, hV8⟩ : ∃ V8, V8 = lfV σw (AMM σ) (sb (KMM σ) 7) := ⟨_, rfl⟩
  have hV : V8 = LG (dM σ) (cH σw) 8 (wl (AMM σ) (σ 80 0) (σ 80 0).toNat) (nB (sb (KMM σ) 7)) := by
    rw [hV8, lfV_LG (by rw [e80']; exact hM) hs8, ed, e80']
  have hR : ∀ wk, LG (dM σ) (cH σw) 8 (wl wk (σ 80 0) (σ 80 0).toNat) (ins 7 (nB (sb (KMM σ) 7))) = RW σ wk 0 0 := fun wk => by
    have hO : OKd (dM σ) (wl wk (σ 80 0) (σ 80 0).toNat) := OKd.wl hm.2 (by omega) (dM_b hM)
    rw [RW_LG hM h.2.2.2 (by omega) (by omega), Int.sub_zero]
    have hin : ∀ v ∈ wl wk (σ 80 0) (σ 80 0).toNat, 0 ≤ v := fun v hv => by have := wl_in _ v hv; omega
    refine LG_eq (by omega) hn.1 hO (by have := wl_len (wk := wk) (m := σ 80 0) (σ 80 0).toNat; omega) (fun _ _ => rfl) (fun v hv u p q r s => ?_) (fun v hv u p q r s => ?_)
    · rw [ec v u (hin v hv), if_neg (by omega)]
      exact ⟨by omega, rfl, ins_f.mpr ⟨by omega, (nB_8 hM (by omega)).mpr (Or.inl q)⟩⟩
    · obtain ⟨s1, s2⟩ := ins_f.mp s
      have := (nB_8 hM ⟨p, q⟩).mp s2
      rw [ec v u (hin v hv), if_neg s1]
      refine ⟨by omega, rfl, ?_⟩
      unfold yB
      rw [bt_0]
      rfl
  have hVt : RW σ (AMM σ) 0 0 = totM σ := by rw [← eqAW h]; exact e_tot h
  -- with one task more it is no dearer
  have b1 : V8 ≤ totM σ := by
    rw [← hVt, ← hR, hV]
    exact LG_le (by omega) (by omega) _ (OKd.wl hm.2 (by omega) (dM_b hM)) (by have := wl_len (wk := AMM σ) (m := σ 80 0) (σ 80 0).toNat; omega) (fun _ _ => Int.le_refl _) _ _ (fun v _ u p q r s => ⟨q, r, Int.le_refl _, (ins_f.mp s).2⟩)
  have b2 : ∀ w, 0 ≤ w → w < σ 80 0 → 0 ≤ cM σ w t → V8 ≤ cM σ w t + RW σ (ub (AMM σ) w) 0 0 := fun w w0 w1 w2 => by
    have hf := LG_front (d := dM σ) (c := cH σw) (n := 8) (m := σ 80 0) (wk := AMM σ) (w := w) (by omega) hm.2 (dM_b hM) (by omega) ⟨w0, w1⟩ (by rw [AMM_bt hM (by omega), if_pos w1]) (σ 80 0).toNat (by omega) (by omega) (nB (sb (KMM σ) 7))
    have h2 := LG_2 (d := dM σ) (c := cH σw) (n := 8) (w := w) (j := 7) (ws := wl (ub (AMM σ) w) (σ 80 0) (σ 80 0).toNat) (S := nB (sb (KMM σ) 7)) (by omega) (by rw [ec w 7 w0, if_pos rfl]; exact w2) ((nB_8 hM (by omega)).mpr (Or.inr rfl))
    rw [hR, ec w 7 w0, if_pos rfl] at h2
    omega
  have b3 := LG_more (d := dM σ) (c := cH σw) (n := 8) (m := σ 80 0) (wk := AMM σ) (x := 7) (by omega) hm.2 (dM_b hM) (by omega) (σ 80 0).toNat (by omega) (nB (sb (KMM σ) 7))
  rw [hR, hVt, ← hV] at b3
  have hlp : lpV σ t = totM σ - V8 := by unfold lpV; rw [hV8, hσw]
  obtain ⟨k, hk⟩ := Int.eq_ofNat_of_zero_le hm.1
  have hlP : lpP σ t = FI (fun a w => if isB σ 0 w t = 1 then a else max a (shR σ w - σ (TR 0 w) t)) 0 (k : Int) := by
    unfold lpP lpS; rw [h.m, hk]
  obtain ⟨x1, x2, x3⟩ := FI_px (P := fun w => isB σ 0 w t = 1) (f := fun w => shR σ w - σ (TR 0 w) t) (b := 0) k
  rw [← hlP] at x1 x2 x3
  have hsh : ∀ w, shR σ w = totM σ - RW σ (ub (AMM σ) w) 0 0 := fun w => by unfold shR; rw [e_tot h, eqAW h]
  have a1 : lpV σ t ≤ lpP σ t := by
    rcases b3 with g | ⟨w, g1, g2, g3, g4, g⟩
    · omega
    · rw [ec w 7 (by omega), if_pos rfl] at g4 g
      have hb := h.b (w := w) (j := t) (by omega) ht
      have := x2 w (by omega) (by omega) (by omega)
      rw [hsh, h.c (by omega) ht] at this
      rw [hR] at g
      omega
  have a2 : lpP σ t ≤ lpV σ t := by
    rcases x3 with g | ⟨w, g1, g2, g3, g⟩
    · omega
    · have hb := h.b (w := w) (j := t) (by omega) ht
      rw [hsh, h.c (by omega) ht] at g
      have := b2 w g1 (by omega) (by omega)
      omega
  omega
theorem e_sum {σ : St} (h : EQ0 σ) : sPM σ = sLP σ ∧ 0 ≤ sPM σ := by
  have hn := h.1.2.1
  have e : sPM σ = sLP σ := by
    unfold sPM sPs sLP
    rw [h.n]
    exact FI_congrI hn.1 (fun a j p q => by rw [e_lp h ⟨p, q⟩])
  have h0 := FI_add_b (f := fun j => lpP σ j) (lo := 0) (hi := 70001) (σ 80 1).toNat (fun j a b => lpP_b h.2.2.1 (by omega))
  rw [Int.toNat_of_nonneg hn.1] at h0
  refine ⟨e, ?_⟩
  rw [e]
  unfold sLP
  rw [h.n]
  omega
theorem e_wt {σ : St} (h : EQ0 σ) {w : Int} (hw : 0 ≤ w ∧ w < σ 80 0) : wOP σ w = wtP σ w := by
  have hn := h.1.2.1
  unfold wOP wtP
  rw [h.n, h.d hw]
  refine FI_congrI hn.1 (fun a j p q => ?_)
  have hb := h.b hw ⟨p, q⟩
  rw [e_lp h ⟨p, q⟩, h.c hw ⟨p, q⟩]
  by_cases hc : isB σ 0 w j = 1
  · rw [if_pos hc, if_neg (by omega)]
  · rw [if_neg hc]
    by_cases hl : 0 ≤ cM σ w j ∧ cM σ w j + lpV σ j < a
    · rw [if_pos hl]; omega
    · rw [if_neg hl]; omega
theorem e_ti {σ : St} (h : EQ0 σ) {w : Int} (hw : 0 ≤ w ∧ w < σ 80 0) : tgP σ w = tiP σ w := by
  have hn := h.1.2.1
  unfold tgP tiP
  rw [h.n, e_wt h hw]
  refine FI_congrI hn.1 (fun a j p q => ?_)
  have hb := h.b hw ⟨p, q⟩
  rw [e_lp h ⟨p, q⟩, h.c hw ⟨p, q⟩]
  by_cases hl : 0 ≤ cM σ w j ∧ cM σ w j + lpV σ j = wtP σ w
  · rw [if_pos hl, if_pos (by omega)]
  · rw [if_neg hl, if_neg (by omega)]
theorem FI_neg {f : Int → Int} {b c : Int} : ∀ n : Nat, FI (fun a w => a + f w) (b + c) n = FI (fun a w => a + f w) b n + c := by
  intro n
  induction n with
  | zero => rfl
  | succ n ih =>
    have e : ((n + 1 : Nat) : Int) = (n : Int) + 1 := by omega
    rw [e, FI_s (by omega), FI_s (by omega), ih]
    omega
theorem e_pr {σ : St} (h : EQ0 σ) : sWP σ - sLP σ = prS σ (σ 80 0) := by
  have hm := h.1.1
  obtain ⟨k, hk⟩ := Int.eq_ofNat_of_zero_le hm.1
  have e1 : sWP σ = FI (fun a w => a + wtP σ w) 0 (k : Int) := by
    unfold sWP
    rw [h.m, hk]
    exact FI_congrI (by omega) (fun a w p q => by rw [e_wt h (by omega)])
  have e2 : prS σ (σ 80 0) = FI (fun a w => a + wtP σ w) (0 + -(sPM σ)) (k : Int) := by
    unfold prS
    rw [hk, Int.zero_add]
  rw [e1, e2, FI_neg, (e_sum h).1]
  omega
theorem e_ta {σ : St} (h : EQ0 σ) : tPP σ = taS σ (σ 80 0) := by
  have hm := h.1.1
  have hs := (e_sum h).2
  unfold tPP taS
  rw [if_neg (by omega), h.m]
  exact FI_congrI hm.1 (fun a w p q => by rw [e_ti h ⟨p, q⟩])
theorem e_ga {σ : St} (h : EQ0 σ) : sG σ (σ (TB 0) 1) = gaS σ (σ 80 1) := by
  have hn := h.1.2.1
  unfold sG gaS
  rw [h.n]
  exact FI_congrI hn.1 (fun a t p q => by rw [e_gr h ⟨p, q⟩])
theorem e_op {σ : St} (h : EQ0 σ) : oP σ 0 (σ (TB 0) 1) (σ (TB 0) 0) = prP σ (σ 80 0) := by
  have hn := h.1.2.1
  unfold oP prP
  rw [h.n, h.m]
  refine FI_congrI h.1.1.1 (fun a w p q => ?_)
  unfold oR prR
  refine FI_congrI hn.1 (fun b j r s => ?_)
  have hb := h.cb (w := w) (j := j) ⟨p, q⟩ ⟨r, s⟩
  rw [h.c ⟨p, q⟩ ⟨r, s⟩]
  by_cases hc : cM σ w j < 0
  · rw [if_pos hc, if_pos (by omega)]
  · rw [if_neg hc, if_neg (by omega)]
theorem bt_hi {m a v : Int} (h : 0 ≤ a ∧ a ≤ m) (hm : m ≤ 7) (hv : 0 ≤ v ∧ v < 8) : bt (p2 m - p2 a) v = if a ≤ v ∧ v < m then 1 else 0 := by
  have key : ∀ m a v : Fin 8, a.val ≤ m.val → bt (p2 (m.val : Int) - p2 (a.val : Int)) (v.val : Int) = if (a.val : Int) ≤ (v.val : Int) ∧ (v.val : Int) < (m.val : Int) then 1 else 0 := by decide +kernel
  have := key ⟨m.toNat, by omega⟩ ⟨a.toNat, by omega⟩ ⟨v.toNat, by omega⟩ (by show a.toNat ≤ m.toNat; omega)
  simp only [] at this
  rw [Int.toNat_of_nonneg (by omega), Int.toNat_of_nonneg (by omega), Int.toNat_of_nonneg (by omega)] at this
  exact this
theorem p2_mono {a m : Int} (h : 0 ≤ a ∧ a ≤ m) (hm : m ≤ 7) : p2 a ≤ p2 m := by
  by_cases e : a = m
  · rw [e]; exact Int.le_refl _
  · have h1 := p2_lt (k := a) (n := m) h.1 (by omega) (by omega)
    have h2 := p2_k (k := a) (by omega)
    omega
theorem e_hi {σ : St} (h : EQ0 σ) {w tk ts : Int} (hw : 0 ≤ w ∧ w ≤ σ 80 0) (htk : 0 ≤ tk ∧ tk < 256) (hts : 0 ≤ ts ∧ ts < 256) (h1 : ∀ j, 0 ≤ j → j < σ 80 1 → (bt ts j = 1 ↔ bt tk j ≠ 1)) (h2 : ∀ j, σ 80 1 ≤ j → j < 8 → bt ts j ≠ 1) : RW σ (AW σ) w tk = lfV σ (p2 (σ 80 0) - p2 w) ts := by
  have hM := h.1
  have hm := hM.1
  refine RW_lf hM h.2.1 h.2.2.2 hw.1 htk hts ?_ h1 h2
  have e1 : wl (p2 (σ 80 0) - p2 w) (σ 80 0) (σ 80 0).toNat = wl (p2 (σ 80 0) - p2 w) (σ 80 0) (σ 80 0 - w).toNat := by
    have := wl_low (wk := p2 (σ 80 0) - p2 w) (m := σ 80 0) (w := w) hw w.toNat (by omega) (fun v a b => by rw [bt_hi hw hm.2 (by omega), if_neg (by omega)]; omega)
    rw [show (σ 80 0 - w).toNat + w.toNat = (σ 80 0).toNat by omega] at this
    exact this
  rw [e1, eqAW h]
  refine wl_congr _ (fun v a b => ?_)
  rw [AMM_bt hM (by omega), bt_hi hw hm.2 (by omega), if_pos b, if_pos (by omega)]
/-- what stands before a worker of the first plan, told both ways -/
def PLI (σ : St) (i : Nat) : Prop := (plT σ i).1 = RW σ (AW σ) i (tkS σ i) ∧ (0 ≤ tkS σ i ∧ tkS σ i < p2 (σ 80 1)) ∧ (0 ≤ (plT σ i).2 ∧ (plT σ i).2 < 128) ∧ (∀ j, 0 ≤ j → j < σ 80 1 → (bt (plT σ i).2 j = 1 ↔ bt (tkS σ i) j ≠ 1)) ∧ (∀ j, σ 80 1 ≤ j → j < 8 → bt (plT σ i).2 j ≠ 1)
theorem e_pf {σ : St} (h : EQ0 σ) {i : Nat} (hi : (i : Int) < σ 80 0) (hP : PLI σ i) : plF σ i (plT σ i) = fpk σ i (tkS σ i) := by
  obtain ⟨i1, i2, i3, i4, i5⟩ := hP
  have hM := h.1
  have hm := hM.1
  have hn := hM.2.1
  have hpn := p2_n hn
  unfold plF fpk
  rw [h.n]
  refine fsP_congr _ (by omega) (fun j a b => ?_)
  unfold plP
  refine decide_eq_decide.mpr ?_
  have hb := h.cb (w := i) (j := j) (by omega) ⟨a, b⟩
  have hR := RW_b h.2.2.1 (AW σ) i (tkS σ i) (by omega)
  have hl : bt (plT σ i).2 j = 1 → lfV σ (p2 (σ 80 0) - p2 ((i : Int) + 1)) ((plT σ i).2 - p2 j) = RW σ (AW σ) ((i : Int) + 1) (sb (tkS σ i) j) := fun g => by
    have hs := sb_lt (m := tkS σ i) (k := j) (n := σ 80 1) i2 ⟨a, b⟩ hn.2
    have hub : (plT σ i).2 - p2 j = ub (plT σ i).2 j := by unfold ub; rw [if_pos g]
    have hu2 := ub_lt (m := (plT σ i).2) (k := j) (n := 8) (by have : p2 8 = 256 := rfl; omega) (by omega) (by omega)
    rw [hub]
    refine (e_hi h (by omega) (by omega) (by omega) (fun u p q => ?_) (fun u p q => ?_)).symm
    · rw [bt_ub (by omega) (by omega) (by omega), bt_sb (by omega) (by omega) (by omega)]
      by_cases hu : u = j
      · rw [if_pos hu, if_pos hu]; omega
      · rw [if_neg hu, if_neg hu]; exact i4 u p q
    · rw [bt_ub (by omega) (by omega) (by omega), if_neg (by omega)]; exact i5 u p q
  unfold tFm
  rw [h.c (by omega) ⟨a, b⟩]
  have h4 := i4 j a b
  by_cases hx : cM σ i j = -1 ∨ bt (tkS σ i) j = 1
  · rw [if_pos hx]
    refine ⟨fun g => ?_, fun g => by omega⟩
    rcases hx with hx | hx
    · omega
    · exact absurd hx (h4.mp g.1)
  · rw [if_neg hx]
    have hbt : bt (plT σ i).2 j = 1 := h4.mpr (fun e => hx (Or.inr e))
    have := hl hbt
    refine ⟨fun g => by omega, fun g => ⟨hbt, by omega, by omega⟩⟩
theorem plT_0 {σ : St} : plT σ 0 = (totM σ, KMM σ) := by rw [plT]
theorem e_pl {σ : St} (h : EQ0 σ) : ∀ i : Nat, (i : Int) ≤ σ 80 0 → PLI σ i := by
  have hM := h.1
  have hm := hM.1
  have hn := hM.2.1
  have hKb := KMM_b hM
  have hpn := p2_n hn
  intro i
  induction i with
  | zero =>
    intro _
    have e0 : tkS σ ((0 : Nat) : Int) = 0 := rfl
    have ez : ((0 : Nat) : Int) = 0 := rfl
    unfold PLI
    rw [e0, ez, plT_0]
    refine ⟨?_, by omega, hKb, fun j a b => ?_, fun j a b => ?_⟩
    · rw [e_tot h]
    · show bt (KMM σ) j = 1 ↔ _
      rw [KMM_bt hM (by omega), if_pos b, bt_0]; omega
    · show bt (KMM σ) j ≠ 1
      rw [KMM_bt hM (by omega), if_neg (by omega)]; omega
  | succ i ih =>
    intro hi
    have hP := ih (by omega)
    have hf := e_pf h (by omega) hP
    obtain ⟨i1, i2, i3, i4, i5⟩ := hP
    have hR := RW_b h.2.2.1 (AW σ) i (tkS σ i) (by omega)
    have e1 : ((i + 1 : Nat) : Int) = (i : Int) + 1 := by omega
    have htk := tkS_s (σ := σ) (i := i) (by omega)
    have hst := RW_step (σ := σ) (wk := AW σ) (w := i) (tk := tkS σ i) (by rw [h.m]; omega)
    rw [if_pos (by rw [eqAW h, AMM_bt hM (by omega), if_pos (by omega)]), h.n] at hst
    unfold PLI
    rw [plT_1, plT_2, hf, e1, htk]
    rcases fsP_p (P := fun j => decide (tFm σ (AW σ) i j (tkS σ i) = RW σ (AW σ) i (tkS σ i))) (n := σ 80 1) (σ 80 1).toNat (by omega) with ⟨q1, q2⟩ | ⟨q1, q2, q3, q4⟩
    · have hfn : fpk σ i (tkS σ i) = -1 := by unfold fpk; rw [h.n]; exact q1
      rw [if_pos hfn, if_pos hfn, if_pos hfn, Int.sub_zero]
      refine ⟨?_, i2, i3, i4, i5⟩
      obtain ⟨k, hk⟩ := Int.eq_ofNat_of_zero_le hn.1
      rw [hk] at hst
      rcases FI_mat (f := fun j => if σ (TR 0 i) j = -1 ∨ bt (tkS σ i) j = 1 then 1000000 else σ (TR 0 i) j + RW σ (AW σ) (i + 1) (sb (tkS σ i) j)) (b := σ (TI 0) i + RW σ (AW σ) (i + 1) (tkS σ i)) k with g | ⟨j, g1, g2, g⟩
      · have hd := h.d (w := i) (by omega)
        have hst2 := hst.trans g
        omega
      · have hst2 : RW σ (AW σ) i (tkS σ i) = tFm σ (AW σ) i j (tkS σ i) := hst.trans g
        have := q2 j (by omega) (by omega)
        simp only [decide_eq_false_iff_not] at this
        exact absurd hst2.symm this
    · have hfv : fpk σ i (tkS σ i) = fsP (fun j => decide (tFm σ (AW σ) i j (tkS σ i) = RW σ (AW σ) i (tkS σ i))) (σ 80 1) (σ 80 1).toNat := by unfold fpk; rw [h.n]
      rw [← hfv] at q1 q2 q3 q4
      obtain ⟨f, hf9⟩ : ∃ f, f = fpk σ i (tkS σ i) := ⟨_, rfl⟩
      rw [← hf9] at q1 q2 q3 q4 ⊢
      have hfb : 0 ≤ f ∧ f < σ 80 1 := by omega
      have q5 : tFm σ (AW σ) i f (tkS σ i) = RW σ (AW σ) i (tkS σ i) := by simpa using q3
      unfold tFm at q5
      have hc := h.c (w := i) (j := f) (by omega) hfb
      by_cases hx : σ (TR 0 i) f = -1 ∨ bt (tkS σ i) f = 1
      · rw [if_pos hx] at q5; omega
      · rw [if_neg hx] at q5
        rw [if_neg (by omega), if_neg (by omega), if_neg (by omega)]
        have hbt : bt (plT σ i).2 f = 1 := (i4 f hfb.1 hfb.2).mpr (fun e => hx (Or.inr e))
        have hub : (plT σ i).2 - p2 f = ub (plT σ i).2 f := by unfold ub; rw [if_pos hbt]
        have hu2 := ub_lt (m := (plT σ i).2) (k := f) (n := 8) (by have : p2 8 = 256 := rfl; omega) (by omega) (by omega)
        have hs := sb_lt (m := tkS σ i) (k := f) (n := σ 80 1) i2 hfb hn.2
        rw [hub]
        refine ⟨by omega, hs, by omega, fun u p q => ?_, fun u p q => ?_⟩
        · rw [bt_ub (by omega) (by omega) (by omega), bt_sb (by omega) (by omega) (by omega)]
          by_cases hu : u = f
          · rw [if_pos hu, if_pos hu]; omega
          · rw [if_neg hu, if_neg hu]; exact i4 u p q
        · rw [bt_ub (by omega) (by omega) (by omega), if_neg (by omega)]; exact i5 u p q
theorem e_fp {σ : St} (h : EQ0 σ) {w : Int} (hw : 0 ≤ w ∧ w < σ 80 0) : fP σ w = plM σ w := by
  have hP := e_pl h w.toNat (by omega)
  have hf := e_pf h (i := w.toNat) (by omega) hP
  rw [Int.toNat_of_nonneg hw.1] at hf
  exact hf.symm
theorem e_free {σ : St} (h : EQ0 σ) {w : Int} (hw : 0 ≤ w ∧ w < σ 80 0) : fP σ w = -1 ∨ ((0 ≤ fP σ w ∧ fP σ w < σ 80 1) ∧ bt (tkS σ w) (fP σ w) ≠ 1) := by
  have hP := e_pl h w.toNat (by omega)
  have hr := plF_r (σ := σ) h.1.2.1.1 w (plT σ w.toNat)
  have e : plF σ w (plT σ w.toNat) = plM σ w := rfl
  rw [e, ← e_fp h hw] at hr
  rcases hr with g | ⟨g1, g2, g3, g4⟩
  · exact Or.inl g
  · refine Or.inr ⟨⟨g1, g2⟩, ?_⟩
    have := (hP.2.2.2.1 (fP σ w) g1 g2).mp g3
    rw [Int.toNat_of_nonneg hw.1] at this
    exact this
theorem e_inj {σ : St} (h : EQ0 σ) {u w : Int} (hu : 0 ≤ u) (huw : u < w) (hw : w < σ 80 0) (h0 : fP σ u ≠ -1) : fP σ w ≠ fP σ u := by
  have hn := h.1.2.1
  have hpn := p2_n hn
  have hx := e_free h (w := u) (by omega)
  have key : ∀ k : Nat, u + 1 + k ≤ σ 80 0 → bt (tkS σ (u + 1 + k)) (fP σ u) = 1 := by
    intro k
    induction k with
    | zero =>
      intro hk
      have hP := (e_pl h u.toNat (by omega)).2.1
      rw [Int.toNat_of_nonneg hu] at hP
      rw [show u + 1 + ((0 : Nat) : Int) = u + 1 by omega, tkS_s hu]
      show bt (if fP σ u = -1 then tkS σ u else sb (tkS σ u) (fP σ u)) (fP σ u) = 1
      rw [if_neg h0, bt_sb (by omega) (by omega) (by omega), if_pos rfl]
    | succ k ih =>
      intro hk
      have ih' := ih (by omega)
      have hP := (e_pl h (u + 1 + k).toNat (by omega)).2.1
      rw [Int.toNat_of_nonneg (by omega)] at hP
      rw [show u + 1 + ((k + 1 : Nat) : Int) = u + 1 + k + 1 by omega, tkS_s (by omega)]
      by_cases hc : fpk σ (u + 1 + k) (tkS σ (u + 1 + k)) = -1
      · rw [if_pos hc]; exact ih'
      · rw [if_neg hc]
        have hr := fpk_r h.2.2.1 (u + 1 + k) (tkS σ (u + 1 + k))
        rw [h.n] at hr
        rw [bt_sb (by omega) (by omega) (by omega)]
        by_cases hc2 : fP σ u = fpk σ (u + 1 + k) (tkS σ (u + 1 + k))
        · rw [if_pos hc2]
        · rw [if_neg hc2]; exact ih'
  intro e
  have h1 := key (w - (u + 1)).toNat (by omega)
  rw [show u + 1 + (((w - (u + 1)).toNat : Nat) : Int) = w by omega] at h1
  have h2 := e_free h (w := w) (by omega)
  rw [e] at h2
  rcases h2 with g | g
  · exact h0 g
  · exact g.2 h1
theorem FI_last {P : Int → Prop} [DecidablePred P] {b : Int} : ∀ n : Nat, ((∀ j : Int, 0 ≤ j → j < n → ¬ P j) → FI (fun a j => if P j then j else a) b n = b) ∧ ∀ w : Int, 0 ≤ w → w < n → P w → (∀ j : Int, 0 ≤ j → j < n → P j → j = w) → FI (fun a j => if P j then j else a) b n = w := by
  intro n
  induction n with
  | zero => exact ⟨fun _ => rfl, fun w a b => by omega⟩
  | succ n ih =>
    have e : ((n + 1 : Nat) : Int) = (n : Int) + 1 := by omega
    rw [e, FI_s (by omega)]
    refine ⟨fun hj => ?_, fun w a b c d => ?_⟩
    · rw [if_neg (hj n (by omega) (by omega))]
      exact ih.1 (fun j p q => hj j p (by omega))
    · by_cases hp : P n
      · rw [if_pos hp]; exact d n (by omega) (by omega) hp
      · rw [if_neg hp]
        have hw : w ≠ n := fun g => hp (by rw [← g]; exact c)
        exact ih.2 w a (by omega) c (fun j p q r => d j p (by omega) r)
theorem e_wof {σ : St} (h : EQ0 σ) {x : Int} (hx : 0 ≤ x) : woF σ x = if wOf σ x = -1 then -4 else wOf σ x := by
  have hm := h.1.1
  have hL := FI_last (P := fun w => n4 (plM σ w) = x) (b := -4) (σ 80 0).toNat
  rw [Int.toNat_of_nonneg hm.1] at hL
  have hPn : ∀ w, 0 ≤ w → w < σ 80 0 → (n4 (plM σ w) = x ↔ fP σ w = x) := fun w a b => by
    rw [e_fp h ⟨a, b⟩]
    rcases n4_01 (plM σ w) with g | g <;> omega
  unfold woF wOf
  rw [h.m]
  rcases fsP_p (P := fun w => decide (fP σ w = x)) (n := σ 80 0) (σ 80 0).toNat (by omega) with ⟨q1, q2⟩ | ⟨q1, q2, q3, q4⟩
  · rw [q1, if_pos rfl]
    refine hL.1 (fun j a b c => ?_)
    have := q2 j (by omega) b
    simp only [decide_eq_false_iff_not] at this
    exact this ((hPn j a b).mp c)
  · obtain ⟨f, hf⟩ : ∃ f, f = fsP (fun w => decide (fP σ w = x)) (σ 80 0) (σ 80 0).toNat := ⟨_, rfl⟩
    rw [← hf] at q1 q2 q3 q4 ⊢
    have q5 : fP σ f = x := by simpa using q3
    rw [if_neg (by omega)]
    refine hL.2 f (by omega) q2 ((hPn f (by omega) q2).mpr q5) (fun j a b c => ?_)
    have hj := (hPn j a b).mp c
    by_cases e1 : j < f
    · exact absurd (by rw [hj]; exact q5) (e_inj h a e1 q2 (by omega))
    · by_cases e2 : f < j
      · exact absurd (by rw [hj]; exact q5.symm) (e_inj h (by omega) e2 b (by omega))
      · omega
theorem e_rd {σ : St} (h : EQ0 σ) {w : Int} (hw : 0 ≤ w ∧ w < σ 80 0) : rdP σ w = rdM σ w := by
  have hr := plM_r (σ := σ) h.1.2.1.1 w
  have hf := e_fp h hw
  unfold rdP rdM rmP
  rw [hf]
  by_cases hc : plM σ w = -1
  · rw [if_pos hc, if_pos hc]
  · rw [if_neg hc, if_neg hc, e_tot h, e_wo h hw (by omega)]
theorem e_mo {σ : St} (h : EQ0 σ) : ∀ i : Nat, (i : Int) ≤ σ 80 0 → moP σ i = moM σ i := by
  intro i hi
  unfold moP moM
  exact FI_congr i (fun a w p q => by rw [e_rd h (by omega)])
theorem e_de {σ : St} (h : EQ0 σ) : (deP σ = -1 ∧ deM σ (σ 80 0) = -4) ∨ (deP σ = deM σ (σ 80 0) ∧ 0 ≤ deP σ ∧ deP σ < σ 80 0) := by
  have hm := h.1.1
  have key : ∀ i : Nat, (i : Int) ≤ σ 80 0 → (FI (fun a w => if moP σ w < rdP σ w then w else a) (-1) i = -1 ∧ deM σ i = -4) ∨ (FI (fun a w => if moP σ w < rdP σ w then w else a) (-1) i = deM σ i ∧ 0 ≤ deM σ i ∧ deM σ i < i) := by
    intro i
    induction i with
    | zero => intro _; exact Or.inl ⟨rfl, rfl⟩
    | succ i ih =>
      intro hi
      have ih' := ih (by omega)
      have e : ((i + 1 : Nat) : Int) = (i : Int) + 1 := by omega
      rw [e, FI_s (by omega), deM_s (by omega), e_mo h i (by omega), e_rd h (by omega)]
      by_cases hc : moM σ i < rdM σ i
      · rw [if_pos hc, if_pos hc]; exact Or.inr ⟨rfl, by omega, by omega⟩
      · rw [if_neg hc, if_neg hc]
        rcases ih' with g | g
        · exact Or.inl g
        · exact Or.inr ⟨g.1, g.2.1, by omega⟩
  have hk := key (σ 80 0).toNat (by omega)
  rw [Int.toNat_of_nonneg hm.1] at hk
  have e : deP σ = FI (fun a w => if moP σ w < rdP σ w then w else a) (-1) (σ 80 0) := by unfold deP; rw [h.m]
  rw [← e] at hk
  rcases hk with g | g
  · exact Or.inl g
  · exact Or.inr ⟨g.1, by omega, by omega⟩
theorem e_mx {σ : St} (h : EQ0 σ) : ∀ i : Nat, (i : Int) ≤ σ 80 0 → 0 ≤ deM σ i → moM σ i = rdM σ (deM σ i) := by
  intro i
  induction i with
  | zero => intro _ h0; have : deM σ ((0 : Nat) : Int) = -4 := rfl; omega
  | succ i ih =>
    intro hi h0
    have e : ((i + 1 : Nat) : Int) = (i : Int) + 1 := by omega
    rw [e] at h0 ⊢
    rw [deM_s (by omega)] at h0 ⊢
    rw [moM_s (by omega)]
    by_cases hc : moM σ i < rdM σ i
    · rw [if_pos hc, if_pos hc]
    · rw [if_neg hc] at h0
      rw [if_neg hc, if_neg hc]
      exact ih (by omega) h0
theorem e_pd {σ : St} (h : EQ0 σ) : cPP σ = pdM σ (σ 80 0) := by
  unfold cPP pdM
  rw [h.m]
  exact FI_congrI h.1.1.1 (fun a w p q => by rw [e_fp h ⟨p, q⟩])
theorem e_gO {σ : St} (h : EQ0 σ) {w : Int} (hw : 0 ≤ w ∧ w < σ 80 0) : gC σ 0 w (σ (TB 0) 1) = gOM σ w (σ 80 1) := by
  unfold gC gOM
  rw [h.n, h.d hw]
  exact FI_congrI h.1.2.1.1 (fun a j p q => by rw [h.c hw ⟨p, q⟩])
