/-! THE SUMS: the answers that rest on them are the same -/
def EQ0 (σ : St) : Prop := MT (σ 80) ∧ N4 σ ∧ TOK σ 0 ∧ TEQ σ 0 (σ 80)
theorem eqAW {σ : St} (h : EQ0 σ) : AW σ = AMM σ := by
  unfold AW AMM
  rw [h.2.2.2.1]
theorem EQ0.m {σ : St} (h : EQ0 σ) : σ (TB 0) 0 = σ 80 0 := h.2.2.2.1
theorem EQ0.n {σ : St} (h : EQ0 σ) : σ (TB 0) 1 = σ 80 1 := h.2.2.2.2.1
theorem EQ0.d {σ : St} (h : EQ0 σ) {w : Int} (hw : 0 ≤ w ∧ w < σ 80 0) : σ (TI 0) w = dM σ w := h.2.2.2.2.2.1 w hw.1 hw.2
theorem EQ0.c {σ : St} (h : EQ0 σ) {w j : Int} (hw : 0 ≤ w ∧ w < σ 80 0) (hj : 0 ≤ j ∧ j < σ 80 1) : σ (TR 0 w) j = cM σ w j := h.2.2.2.2.2.2 w j hw.1 hw.2 hj.1 hj.2
theorem EQ0.cb {σ : St} (h : EQ0 σ) {w j : Int} (hw : 0 ≤ w ∧ w < σ 80 0) (hj : 0 ≤ j ∧ j < σ 80 1) : -1 ≤ cM σ w j ∧ cM σ w j ≤ 9999 := h.1.2.2.2 w j hw.1 (by have := h.1.1; omega) hj.1 (by have := h.1.2.1; omega)
theorem EQ0.b {σ : St} (h : EQ0 σ) {w j : Int} (hw : 0 ≤ w ∧ w < σ 80 0) (hj : 0 ≤ j ∧ j < σ 80 1) : (isB σ 0 w j = 1 ∧ cM σ w j < 0) ∨ (isB σ 0 w j = 0 ∧ 0 ≤ cM σ w j) := by
  have h1 := h.cb hw hj
  have h2 := h.c hw hj
  rcases isB_01 σ 0 w j with g | g <;> omega
theorem KMM_b {σ : St} (hM : MT (σ 80)) : 0 ≤ KMM σ ∧ KMM σ < 128 := by
  have := p2_n hM.2.1
  unfold KMM; omega
theorem AMM_b {σ : St} (hM : MT (σ 80)) : 0 ≤ AMM σ ∧ AMM σ < 128 := by
  have := p2_n hM.1
  unfold AMM; omega
theorem KMM_bt {σ : St} (hM : MT (σ 80)) {j : Int} (hj : 0 ≤ j ∧ j < 8) : bt (KMM σ) j = if j < σ 80 1 then 1 else 0 := bt_all (by have := hM.2.1; omega) hj
theorem AMM_bt {σ : St} (hM : MT (σ 80)) {j : Int} (hj : 0 ≤ j ∧ j < 8) : bt (AMM σ) j = if j < σ 80 0 then 1 else 0 := bt_all (by have := hM.1; omega) hj
theorem AMM_ub {σ : St} (hM : MT (σ 80)) {w : Int} (hw : 0 ≤ w ∧ w < σ 80 0) : ub (AMM σ) w = AMM σ - p2 w := by
  unfold ub
  rw [if_pos (by rw [AMM_bt hM (by have := hM.1; omega), if_pos hw.2])]
theorem KMM_ub {σ : St} (hM : MT (σ 80)) {w : Int} (hw : 0 ≤ w ∧ w < σ 80 1) : ub (KMM σ) w = KMM σ - p2 w := by
  unfold ub
  rw [if_pos (by rw [KMM_bt hM (by have := hM.2.1; omega), if_pos hw.2])]
theorem e_wk {σ : St} (h : EQ0 σ) (wk : Int) : RW σ wk 0 0 = lfV σ wk (KMM σ) := by
  obtain ⟨hM, hN, -, hE⟩ := h
  have hk := KMM_b hM
  have hn := hM.2.1
  refine RW_lf hM hN hE (by omega) (by omega) (by omega) (by rw [Int.sub_zero]) (fun j a b => ?_) (fun j a b => ?_)
  · rw [KMM_bt hM (by omega), if_pos b, bt_0]; omega
  · rw [KMM_bt hM (by omega), if_neg (by omega)]; omega
theorem e_wkp {σ : St} (h : EQ0 σ) (wk : Int) {t : Int} (ht : 0 ≤ t ∧ t < σ 80 1) : RW σ wk 0 (p2 t) = lfV σ wk (KMM σ - p2 t) := by
  obtain ⟨hM, hN, -, hE⟩ := h
  have hk := KMM_b hM
  have hn := hM.2.1
  have hp := p2_k (k := t) (by omega)
  have hl := p2_lt (k := t) (n := σ 80 1) (by omega) (by omega) (by omega)
  have hl7 := p2_n hM.2.1
  have e : KMM σ = p2 (σ 80 1) - 1 := rfl
  refine RW_lf hM hN hE (by omega) (by omega) (by omega) (by rw [Int.sub_zero]) (fun j a b => ?_) (fun j a b => ?_)
  · rw [← KMM_ub hM ht, bt_ub (by omega) (by omega) (by omega), KMM_bt hM (by omega), if_pos b, bt_p2 (by omega) (by omega)]
    by_cases hj : j = t
    · rw [if_pos hj, if_pos hj]; omega
    · rw [if_neg hj, if_neg hj]; omega
  · rw [← KMM_ub hM ht, bt_ub (by omega) (by omega) (by omega), KMM_bt hM (by omega), if_neg (by omega), if_neg (by omega)]; omega
theorem e_tot {σ : St} (h : EQ0 σ) : RW σ (AW σ) 0 0 = totM σ := by
  rw [e_wk h, eqAW h]; rfl
theorem e_gr {σ : St} (h : EQ0 σ) {t : Int} (ht : 0 ≤ t ∧ t < σ 80 1) : grP σ t = grV σ t := by
  unfold grP grV
  rw [e_tot h, e_wkp h _ ht, eqAW h]
theorem e_sh {σ : St} (h : EQ0 σ) {w : Int} (hw : 0 ≤ w ∧ w < σ 80 0) : shR σ w = whV σ w := by
  unfold shR whV
  rw [e_tot h, e_wk h, eqAW h, AMM_ub h.1 hw]
theorem e_wi {σ : St} (h : EQ0 σ) {w j : Int} (hw : 0 ≤ w ∧ w < σ 80 0) (hj : -1 ≤ j ∧ j < σ 80 1) : cW σ 0 w j + RW σ (ub (AW σ) w) 0 (mk j) = wiV σ w j := by
  rw [eqAW h, AMM_ub h.1 hw]
  unfold cW mk wiV
  by_cases hj1 : j = -1
  · rw [if_pos hj1, if_pos hj1, if_pos (by omega), h.d hw, e_wk h]
  · rw [if_neg hj1, if_neg hj1, if_neg (by omega), h.c hw (by omega), e_wkp h _ (by omega)]
theorem FI_pc {P : Int → Prop} [DecidablePred P] {f : Int → Int} {b : Int} : ∀ n : Nat, FI (fun a j => if P j then a else min a (f j)) b n ≤ b ∧ (∀ j : Int, 0 ≤ j → j < n → ¬ P j → FI (fun a j => if P j then a else min a (f j)) b n ≤ f j) ∧ (FI (fun a j => if P j then a else min a (f j)) b n = b ∨ ∃ j : Int, 0 ≤ j ∧ j < n ∧ ¬ P j ∧ FI (fun a j => if P j then a else min a (f j)) b n = f j) := by
  intro n
  induction n with
  | zero => exact ⟨Int.le_refl _, fun j a b => by omega, Or.inl rfl⟩
  | succ n ih =>
    obtain ⟨i1, i2, i3⟩ := ih
    have e : ((n + 1 : Nat) : Int) = (n : Int) + 1 := by omega
    rw [e, FI_s (by omega)]
    by_cases hp : P n
    · rw [if_pos hp]
      refine ⟨i1, fun j a b c => ?_, ?_⟩
      · by_cases hj : j = n
        · rw [hj] at c; exact absurd hp c
        · exact i2 j a (by omega) c
      · rcases i3 with k | ⟨j, a, b, c, k⟩
        · exact Or.inl k
        · exact Or.inr ⟨j, a, by omega, c, k⟩
    · rw [if_neg hp]
      refine ⟨by omega, fun j a b c => ?_, ?_⟩
      · by_cases hj : j = n
        · rw [hj]; omega
        · have := i2 j a (by omega) c; omega
      · by_cases hm : FI (fun a j => if P j then a else min a (f j)) b n ≤ f n
        · rw [Int.min_eq_left hm]
          rcases i3 with k | ⟨j, a, b, c, k⟩
          · exact Or.inl k
          · exact Or.inr ⟨j, a, by omega, c, k⟩
        · rw [Int.min_eq_right (by omega)]
          exact Or.inr ⟨n, by omega, by omega, hp, rfl⟩
theorem FI_px {P : Int → Prop} [DecidablePred P] {f : Int → Int} {b : Int} : ∀ n : Nat, b ≤ FI (fun a j => if P j then a else max a (f j)) b n ∧ (∀ j : Int, 0 ≤ j → j < n → ¬ P j → f j ≤ FI (fun a j => if P j then a else max a (f j)) b n) ∧ (FI (fun a j => if P j then a else max a (f j)) b n = b ∨ ∃ j : Int, 0 ≤ j ∧ j < n ∧ ¬ P j ∧ FI (fun a j => if P j then a else max a (f j)) b n = f j) := by
  intro n
  induction n with
  | zero => exact ⟨Int.le_refl _, fun j a b => by omega, Or.inl rfl⟩
  | succ n ih =>
    obtain ⟨i1, i2, i3⟩ := ih
    have e : ((n + 1 : Nat) : Int) = (n : Int) + 1 := by omega
    rw [e, FI_s (by omega)]
    by_cases hp : P n
    · rw [if_pos hp]
      refine ⟨i1, fun j a b c => ?_, ?_⟩
      · by_cases hj : j = n
        · rw [hj] at c; exact absurd hp c
        · exact i2 j a (by omega) c
      · rcases i3 with k | ⟨j, a, b, c, k⟩
        · exact Or.inl k
        · exact Or.inr ⟨j, a, by omega, c, k⟩
    · rw [if_neg hp]
      refine ⟨by omega, fun j a b c => ?_, ?_⟩
      · by_cases hj : j = n
        · rw [hj]; omega
        · have := i2 j a (by omega) c; omega
      · by_cases hm : f n ≤ FI (fun a j => if P j then a else max a (f j)) b n
        · rw [Int.max_eq_left hm]
          rcases i3 with k | ⟨j, a, b, c, k⟩
          · exact Or.inl k
          · exact Or.inr ⟨j, a, by omega, c, k⟩
        · rw [Int.max_eq_right (by omega)]
          exact Or.inr ⟨n, by omega, by omega, hp, rfl⟩
theorem tOk_pc {σ : St} (h : EQ0 σ) {wk w j : Int} : tOk σ wk w j ≤ 1000000 ∧ (∀ i, -1 ≤ i → i < σ 80 1 → i ≠ j → isB σ 0 w i ≠ 1 → tOk σ wk w j ≤ cW σ 0 w i + RW σ wk 0 (mk i)) ∧ (tOk σ wk w j = 1000000 ∨ ∃ i, -1 ≤ i ∧ i < σ 80 1 ∧ i ≠ j ∧ isB σ 0 w i ≠ 1 ∧ tOk σ wk w j = cW σ 0 w i + RW σ wk 0 (mk i)) := by
  have hn := h.1.2.1
  obtain ⟨k, hk⟩ := Int.eq_ofNat_of_zero_le (show 0 ≤ σ (TB 0) 1 + 1 by rw [h.n]; omega)
  have hk' : (k : Int) = σ 80 1 + 1 := by rw [← h.n]; exact hk.symm
  have hp := FI_pc (P := fun i => i - 1 = j ∨ isB σ 0 w (i - 1) = 1) (f := fun i => cW σ 0 w (i - 1) + RW σ wk 0 (mk (i - 1))) (b := 1000000) k
  unfold tOk
  rw [hk]
  obtain ⟨p1, p2, p3⟩ := hp
  refine ⟨p1, fun i a b c d => ?_, ?_⟩
  · have := p2 (i + 1) (by omega) (by omega) (fun e => by
      rcases e with e | e
      · omega
      · rw [show i + 1 - 1 = i by omega] at e; exact d e)
    simp only [show i + 1 - 1 = i by omega] at this
    exact this
  · rcases p3 with q | ⟨i, a, b, c, q⟩
    · exact Or.inl q
    · exact Or.inr ⟨i - 1, by omega, by omega, fun e => c (Or.inl e), fun e => c (Or.inr e), q⟩
theorem e_bu {σ : St} (h : EQ0 σ) {w : Int} (hw : 0 ≤ w ∧ w < σ 80 0) : tOk σ (ub (AW σ) w) w (-1) = buV σ w := by
  have hn := h.1.2.1
  obtain ⟨t1, t2, t3⟩ := tOk_pc h (wk := ub (AW σ) w) (w := w) (j := -1)
  obtain ⟨k, hk⟩ := Int.eq_ofNat_of_zero_le hn.1
  have m1 := FI_mle (f := fun t => if cM σ w t < 0 then 1000000 else wiV σ w t) (b := 1000000) k
  have m2 := FI_mat (f := fun t => if cM σ w t < 0 then 1000000 else wiV σ w t) (b := 1000000) k
  have eb : buV σ w = FI (fun a t => min a (if cM σ w t < 0 then 1000000 else wiV σ w t)) 1000000 (k : Int) := by
    unfold buV buS; rw [hk]
  rw [← eb] at m1 m2
  have a1 : buV σ w ≤ tOk σ (ub (AW σ) w) w (-1) := by
    rcases t3 with t | ⟨i, i1, i2, i3, i4, t⟩
    · rw [t]; exact m1.1
    · have hb := h.b (w := w) (j := i) hw (by omega)
      have := m1.2 i (by omega) (by omega)
      simp only [if_neg (show ¬ cM σ w i < 0 by omega)] at this
      rw [t, e_wi h hw (by omega)]
      exact this
  have a2 : tOk σ (ub (AW σ) w) w (-1) ≤ buV σ w := by
    rcases m2 with t | ⟨i, i1, i2, t⟩
    · rw [t]; exact t1
    · have hb := h.b (w := w) (j := i) hw (by omega)
      rw [t]
      by_cases hc : cM σ w i < 0
      · simp only [if_pos hc]; exact t1
      · simp only [if_neg hc]
        rw [← e_wi h hw (by omega)]
        exact t2 i (by omega) (by omega) (by omega) (by omega)
  omega
theorem wl_bit {wk m : Int} : ∀ (i : Nat) (v : Int), v ∈ wl wk m i → bt wk v = 1 := by
  intro i
  induction i with
  | zero => intro v h; cases h
  | succ i ih =>
    intro v h
    rw [wl_s] at h
    by_cases hb : bt wk (m - (i + 1)) = 1
    · rw [if_pos hb] at h
      rcases List.mem_cons.mp h with e | h
      · rw [e]; exact hb
      · exact ih v h
    · rw [if_neg hb] at h; exact ih v h
theorem nB_K {σ : St} (hM : MT (σ 80)) {j : Int} (hj : 0 ≤ j ∧ j < 8) : nB (KMM σ) j = false ↔ j < σ 80 1 := by
  unfold nB
  rw [KMM_bt hM hj]
  by_cases h : j < σ 80 1
  · simp [h]
  · simp [h]
theorem yB_mk {i j : Int} (hi : -1 ≤ i ∧ i < 8) (hj : 0 ≤ j ∧ j < 8) : yB (mk i) j = false ↔ j ≠ i := by
  unfold yB mk
  by_cases h : i = -1
  · rw [if_pos h, bt_0]; simp; omega
  · rw [if_neg h, bt_p2 (by omega) hj]
    by_cases h2 : j = i
    · simp [h2]
    · simp [h2]
theorem e_wo {σ : St} (h : EQ0 σ) {w j : Int} (hw : 0 ≤ w ∧ w < σ 80 0) (hj : 0 ≤ j ∧ j < σ 80 1) : tOk σ (ub (AW σ) w) w j = woV σ w j := by
  have hM := h.1
  have hm := hM.1
  have hn := hM.2.1
  have hKb := KMM_b hM
  have hAb := AMM_b hM
  obtain ⟨σw, hσw⟩ : ∃ s : St, s = up (up σ 79 7 w) 79 8 j := ⟨_, rfl⟩
  have e80 : ∀ k, σw 80 k = σ 80 k := fun k => by rw [hσw, up_o (by omega), up_o (by omega)]
  have e80' : σw 80 = σ 80 := funext e80
  have ed : dM σw = dM σ := funext fun v => e80 _
  have ec : ∀ v t, 0 ≤ v → t < 7 → cH σw v t = if v = w ∧ t = j then -1 else cM σ v t := fun v t a b => by
    have c1 : σw 79 7 = w := by rw [hσw, up_o (by omega), up_e]
    have c2 : σw 79 8 = j := by rw [hσw, up_e]
    unfold cH cHt cM
    rw [c1, c2, if_neg (show ¬ t = 7 by omega), e80']
  have hV : woV σ w j = LG (dM σ) (cH σw) 8 (w :: wl (ub (AMM σ) w) (σ 80 0) (σ 80 0).toNat) (nB (KMM σ)) := by
    unfold woV
    rw [← hσw]
    unfold totM
    have eA : AMM σw = AMM σ := by unfold AMM; rw [e80]
    have eK : KMM σw = KMM σ := by unfold KMM; rw [e80]
    rw [eA, eK, lfV_LG (by rw [e80']; exact hM) (by omega), ed, e80]
    exact LG_front (by omega) hm.2 (dM_b hM) (by omega) hw (by rw [AMM_bt hM (by omega), if_pos hw.2]) _ (by omega) (by omega) _
  obtain ⟨L, hL⟩ : ∃ L, L = wl (ub (AMM σ) w) (σ 80 0) (σ 80 0).toNat := ⟨_, rfl⟩
  rw [← hL] at hV
  have hin : ∀ v ∈ L, 0 ≤ v ∧ v < σ 80 0 ∧ v ≠ w := fun v hv => by
    rw [hL] at hv
    have h1 := wl_in _ v hv
    have h2 := wl_bit _ v hv
    refine ⟨by omega, by omega, fun e => ?_⟩
    rw [e, bt_ub (by omega) (by omega) (by omega), if_pos rfl] at h2
    omega
  have hO : OKd (dM σ) L := by rw [hL]; exact OKd.wl hm.2 (by omega) (dM_b hM)
  have hLl : L.length ≤ 7 := by rw [hL]; have := wl_len (wk := ub (AMM σ) w) (m := σ 80 0) (σ 80 0).toNat; omega
  have hR : ∀ i, -1 ≤ i → i < σ 80 1 → RW σ (ub (AW σ) w) 0 (mk i) = LG (dM σ) (cH σw) 8 L (if i = -1 then nB (KMM σ) else ins i (nB (KMM σ))) := fun i a b => by
    have hmb := mk_b (j := i) (n := σ 80 1) ⟨a, b⟩ hn.2 hn.1
    have hpn := p2_n hn
    rw [RW_LG hM h.2.2.2 (by omega) (by omega), eqAW h, Int.sub_zero, ← hL]
    refine LG_eq hn.1 (by omega) hO hLl (fun _ _ => rfl) (fun v hv t p q r s => ?_) (fun v hv t p q r s => ?_)
    · have hv' := hin v hv
      have hs : nB (KMM σ) t = false ∧ t ≠ i := by
        by_cases hi : i = -1
        · rw [if_pos hi] at s; exact ⟨s, by omega⟩
        · rw [if_neg hi] at s; have := ins_f.mp s; exact ⟨this.2, this.1⟩
      have ht := (nB_K hM ⟨p, q⟩).mp hs.1
      rw [ec v t hv'.1 (by omega), if_neg (fun e => hv'.2.2 e.1)]
      exact ⟨ht, rfl, (yB_mk (by omega) (by omega)).mpr hs.2⟩
    · have hv' := hin v hv
      have hs := (yB_mk (i := i) (j := t) (by omega) (by omega)).mp s
      rw [ec v t hv'.1 (by omega), if_neg (fun e => hv'.2.2 e.1)]
      refine ⟨by omega, rfl, ?_⟩
      have hk := (nB_K (j := t) hM (by omega)).mpr q
      by_cases hi : i = -1
      · rw [if_pos hi]; exact hk
      · rw [if_neg hi]; exact ins_f.mpr ⟨hs, hk⟩
  have r0 := hR (-1) (by omega) (by omega)
  rw [if_pos rfl] at r0
  obtain ⟨t1, t2, t3⟩ := tOk_pc h (wk := ub (AW σ) w) (w := w) (j := j)
  have hcon : OKd (dM σ) (w :: L) := fun y hy => by
    rcases List.mem_cons.mp hy with e | hy
    · rw [e]; exact dM_b hM _ (by omega) (by omega)
    · exact hO y hy
  have ci : cW σ 0 w (-1) = dM σ w := by unfold cW; rw [if_pos rfl, h.d hw]
  have ct : ∀ t, 0 ≤ t → t < σ 80 1 → cW σ 0 w t = cM σ w t := fun t a b => by unfold cW; rw [if_neg (by omega), h.c hw ⟨a, b⟩]
  rw [hV]
  have a1 : tOk σ (ub (AW σ) w) w j ≤ LG (dM σ) (cH σw) 8 (w :: L) (nB (KMM σ)) := by
    rcases LG_3 (d := dM σ) (c := cH σw) (n := 8) (S := nB (KMM σ)) (by omega) hcon hLl with g | ⟨t, g1, g2, g3, g4, g⟩
    · have := t2 (-1) (by omega) (by omega) (by omega) (by unfold isB; rw [if_neg (by omega)]; omega)
      rw [ci, r0] at this
      omega
    · have ht := (nB_K hM ⟨g1, g2⟩).mp g4
      rw [ec w t hw.1 (by omega)] at g3 g
      by_cases htj : w = w ∧ t = j
      · rw [if_pos htj] at g3; omega
      · rw [if_neg htj] at g3 g
        have hb := h.b hw ⟨g1, ht⟩
        have := t2 t (by omega) ht (fun e => htj ⟨rfl, e⟩) (by omega)
        rw [ct t g1 ht, hR t (by omega) ht, if_neg (by omega)] at this
        omega
  have a2 : LG (dM σ) (cH σw) 8 (w :: L) (nB (KMM σ)) ≤ tOk σ (ub (AW σ) w) w j := by
    rcases t3 with g | ⟨i, i1, i2, i3, i4, g⟩
    · have hb := LG_b (d := dM σ) (c := cH σw) (n := 8) (by omega) (w :: L) hcon (nB (KMM σ))
      rw [List.length_cons] at hb
      omega
    · rw [g]
      by_cases hi : i = -1
      · rw [hi, ci, r0]
        exact LG_1 (by omega)
      · have hb := h.b hw (j := i) (by omega)
        rw [ct i (by omega) i2, hR i i1 i2, if_neg hi]
        have := LG_2 (d := dM σ) (c := cH σw) (n := 8) (w := w) (j := i) (ws := L) (S := nB (KMM σ)) (by omega) (by rw [ec w i hw.1 (by omega), if_neg (fun e => i3 e.2)]; omega) ((nB_K hM (by omega)).mpr i2)
        rw [ec w i hw.1 (by omega), if_neg (fun e => i3 e.2)] at this
        exact this
  omega
