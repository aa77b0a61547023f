/-! THE LAW: what stands between its acts, and what each act leaves -/
def R4 (σ : St) (M N : Int) (fi : Int → Int) (fc : Int → Int → Int) : Prop := σ (TB 0) 0 = M ∧ σ (TB 0) 1 = N ∧ (∀ w, 0 ≤ w → w < 7 → σ (TI 0) w = fi w) ∧ ∀ w j, 0 ≤ w → w < 7 → 0 ≤ j → j < 7 → σ (TR 0 w) j = fc w j
def B4 (M N : Int) (fi : Int → Int) (fc : Int → Int → Int) : Prop := (0 ≤ M ∧ M ≤ 7) ∧ (0 ≤ N ∧ N ≤ 7) ∧ (∀ w, 0 ≤ w → w < 7 → 0 ≤ fi w ∧ fi w ≤ 9999) ∧ ∀ w j, 0 ≤ w → w < 7 → 0 ≤ j → j < 7 → -1 ≤ fc w j ∧ fc w j ≤ 9999
theorem R4.tok {σ : St} {M N : Int} {fi : Int → Int} {fc : Int → Int → Int} (h : R4 σ M N fi fc) (b : B4 M N fi fc) : TOK σ 0 := by
  obtain ⟨h0, h1, h2, h3⟩ := h
  obtain ⟨b0, b1, b2, b3⟩ := b
  exact ⟨by rw [h0]; exact b0, by rw [h1]; exact b1, fun w x y => by rw [h2 w x y]; exact b2 w x y, fun w j x y z u => by rw [h3 w j x y z u]; exact b3 w j x y z u⟩
theorem ite_bd {c : Prop} [Decidable c] {a b lo hi : Int} (h1 : c → lo ≤ a ∧ a ≤ hi) (h2 : ¬ c → lo ≤ b ∧ b ≤ hi) : lo ≤ (if c then a else b) ∧ (if c then a else b) ≤ hi := by
  by_cases h : c
  · rw [if_pos h]; exact h1 h
  · rw [if_neg h]; exact h2 h
theorem r_adW {s : St} {x m n : Int} (h0 : s (TB 0) 0 = m) (h1 : s (TB 0) 1 = n) (hm : 0 ≤ m ∧ m < 7) : R4 (adW s 0 x n 1) (m + 1) n (fun w => if w = m then x else s (TI 0) w) (fun w j => if w = m ∧ j < n then -1 else s (TR 0 w) j) := by
  refine ⟨?_, ?_, fun w a b => ?_, fun w j a b c d => ?_⟩ <;> unfold adW <;> rw [h0] <;> (try rw [← h1]) <;> (try unfold TB) <;> (try unfold TI) <;> (try unfold TR) <;> (repeat' first | refine ite_l (fun h => ?_) (fun h => ?_) | refine ite_r (fun h => ?_) (fun h => ?_)) <;> first | rfl | omega
theorem r_adT {s : St} {m n : Int} (h0 : s (TB 0) 0 = m) (h1 : s (TB 0) 1 = n) (hm : 0 ≤ m ∧ m ≤ 7) : R4 (adT s 0 m 1) m (n + 1) (fun w => s (TI 0) w) (fun w j => if w < m ∧ j = n then -1 else s (TR 0 w) j) := by
  refine ⟨?_, ?_, fun w a b => ?_, fun w j a b c d => ?_⟩ <;> unfold adT <;> rw [h1] <;> (try rw [← h0]) <;> (try unfold TB) <;> (try unfold TI) <;> (try unfold TR) <;> (repeat' first | refine ite_l (fun h => ?_) (fun h => ?_) | refine ite_r (fun h => ?_) (fun h => ?_)) <;> first | rfl | omega
theorem r_rmW {s : St} {d m n : Int} (h0 : s (TB 0) 0 = m) (h1 : s (TB 0) 1 = n) (hd : 0 ≤ d ∧ d < m) (hm : m ≤ 7) : R4 (rmW s 0 d (m - 1) (m - 1) 0) (m - 1) n (fun w => if d ≤ w ∧ w < m - 1 then s (TI 0) (w + 1) else s (TI 0) w) (fun w j => if d ≤ w ∧ w < m - 1 ∧ j < n then s (TR 0 (w + 1)) j else s (TR 0 w) j) := by
  refine ⟨?_, ?_, fun w a b => ?_, fun w j a b c d => ?_⟩ <;> unfold rmW <;> rw [h0, h1] <;> (try rw [← h1]) <;> (try unfold TB) <;> (try unfold TI) <;> (try unfold TR) <;> (repeat' first | refine ite_l (fun h => ?_) (fun h => ?_) | refine ite_r (fun h => ?_) (fun h => ?_)) <;> first | rfl | omega | exact st_c (by omega) (by omega)
theorem r_rmT {s : St} {d m n : Int} (h0 : s (TB 0) 0 = m) (h1 : s (TB 0) 1 = n) (hd : 0 ≤ d ∧ d < n) (hm : 0 ≤ m ∧ m ≤ 7) : R4 (rmT s 0 d m d) m (n - 1) (fun w => s (TI 0) w) (fun w j => if w < m ∧ d ≤ j ∧ j < n - 1 then s (TR 0 w) (j + 1) else s (TR 0 w) j) := by
  refine ⟨?_, ?_, fun w a b => ?_, fun w j a b c d => ?_⟩ <;> unfold rmT <;> rw [h1] <;> (try rw [← h0]) <;> (try unfold TB) <;> (try unfold TI) <;> (try unfold TR) <;> (repeat' first | refine ite_l (fun h => ?_) (fun h => ?_) | refine ite_r (fun h => ?_) (fun h => ?_)) <;> first | rfl | omega | exact st_c (by omega) (by omega)
theorem r_muC {s : St} {v f m n : Int} (h0 : s (TB 0) 0 = m) (h1 : s (TB 0) 1 = n) (hv : 0 ≤ v ∧ v < 7) : R4 (muC s 0 v f n) m n (fun w => if w = v then s (TI 0) v * f else s (TI 0) w) (fun w j => if w = v ∧ j < n ∧ s (TR 0 v) j ≠ -1 then s (TR 0 v) j * f else s (TR 0 w) j) := by
  refine ⟨?_, ?_, fun w a b => ?_, fun w j a b c d => ?_⟩ <;> unfold muC <;> (try rw [← h0]) <;> (try rw [← h1]) <;> (try unfold TB) <;> (try unfold TI) <;> (try unfold TR) <;> (repeat' first | refine ite_l (fun h => ?_) (fun h => ?_) | refine ite_r (fun h => ?_) (fun h => ?_)) <;> first | rfl | omega | exact st_c (by omega) (by omega)
theorem r_pr {s : St} {v i c m n : Int} (h0 : s (TB 0) 0 = m) (h1 : s (TB 0) 1 = n) (hv : 0 ≤ v ∧ v < 7) : R4 (up s (TR 0 v) i c) m n (fun w => s (TI 0) w) (fun w j => if w = v ∧ j = i then c else s (TR 0 w) j) := by
  refine ⟨?_, ?_, fun w a b => ?_, fun w j a b c d => ?_⟩ <;> unfold up <;> (try rw [← h0]) <;> (try rw [← h1]) <;> (try unfold TB) <;> (try unfold TI) <;> (try unfold TR) <;> (repeat' first | refine ite_l (fun h => ?_) (fun h => ?_) | refine ite_r (fun h => ?_) (fun h => ?_)) <;> first | rfl | omega | exact st_c (by omega) (by omega)
theorem r_id {s : St} {v x m n : Int} (h0 : s (TB 0) 0 = m) (h1 : s (TB 0) 1 = n) : R4 (up s (TI 0) v x) m n (fun w => if w = v then x else s (TI 0) w) (fun w j => s (TR 0 w) j) := by
  refine ⟨?_, ?_, fun w a b => ?_, fun w j a b c d => ?_⟩ <;> unfold up <;> (try rw [← h0]) <;> (try rw [← h1]) <;> (try unfold TB) <;> (try unfold TI) <;> (try unfold TR) <;> (repeat' first | refine ite_l (fun h => ?_) (fun h => ?_) | refine ite_r (fun h => ?_) (fun h => ?_)) <;> first | rfl | omega | exact st_c (by omega) (by omega)
theorem r_cp {s : St} : R4 (cpT s 0 5) (s (TB 5) 0) (s (TB 5) 1) (fun w => s (TI 5) w) (fun w j => s (TR 5 w) j) := by
  obtain ⟨b0, b1, b2, -⟩ := cpT_b (σ := s) (t := 0) (u := 5)
  exact ⟨b0 0 (Or.inl rfl), b0 1 (Or.inr rfl), fun w a b => b1 w a b, fun w j a b c d => b2 w j a b c d⟩

theorem and_max (x : Int) : ∃ z : Int, iI x &&& iI 2147483647 = iI z ∧ 0 ≤ z ∧ z < 2147483648 := by
  refine ⟨(iI x &&& iI 2147483647).toInt, (iI_of _).symm, ?_⟩
  have e : (iI x &&& iI 2147483647).toInt = (((iI x).toBitVec &&& 2147483647#32).toNat : Int) := by
    show ((iI x).toBitVec &&& 2147483647#32).toInt = _
    have h : ((iI x).toBitVec &&& 2147483647#32).toNat ≤ 2147483647 := by
      rw [BitVec.toNat_and]
      exact Nat.and_le_right
    rw [BitVec.toInt_eq_toNat_cond, if_pos (by omega)]
  have h : ((iI x).toBitVec &&& 2147483647#32).toNat ≤ 2147483647 := by
    rw [BitVec.toNat_and]
    exact Nat.and_le_right
  rw [e]
  omega
/-- between the law's acts: the class's table is the law's own -/
def LW (σ : St) : Prop := CI σ ∧ σ 8 0 = 0 ∧ σ (TB 0) 1 ≤ 5 ∧ σ 79 0 = σ (TB 0) 0 ∧ σ 79 1 = σ (TB 0) 1 ∧ (∀ w, 0 ≤ w → w < σ (TB 0) 0 → σ 81 w = σ (TI 0) w) ∧ ∀ w j, 0 ≤ w → w < σ (TB 0) 0 → 0 ≤ j → j < σ (TB 0) 1 → σ 80 (7 * w + j) = σ (TR 0 w) j
theorem CI.hi {σ σ' : St} (h : CI σ) (hv : ∀ q k, q < 79 → σ' q k = σ q k) : CI σ' := by
  obtain ⟨h1, h2, h3⟩ := h
  refine ⟨fun t a b => (h1 t a b).keep (fun q k c d => hv q k (by unfold TB at d; omega)), ?_, h3.of (hv _ _ (by omega)) (fun k => hv _ _ (by omega))⟩
  obtain ⟨g1, g2, g3⟩ := h2
  exact ⟨by rw [hv 1 0 (by omega)]; exact g1, fun i a b => by rw [hv 2 i (by omega)]; exact g2 i a b, fun i j a b c => by rw [hv 2 i (by omega), hv 2 j (by omega)]; exact g3 i j a b c⟩
theorem CI.t0 {σ σ' : St} (h : CI σ) (hv : ∀ q k, q < 79 → ¬ (11 ≤ q ∧ q ≤ 20) → σ' q k = σ q k) (hT : TOK σ' 0) : CI σ' := by
  obtain ⟨h1, h2, h3⟩ := h
  refine ⟨fun t a b => ?_, ?_, h3.of (hv _ _ (by omega) (by omega)) (fun k => hv _ _ (by omega) (by omega))⟩
  · by_cases ht : t = 0
    · rw [ht]; exact hT
    · exact (h1 t a b).keep (fun q k c d => hv q k (by unfold TB at d; omega) (by unfold TB at c; omega))
  · obtain ⟨g1, g2, g3⟩ := h2
    exact ⟨by rw [hv 1 0 (by omega) (by omega)]; exact g1, fun i a b => by rw [hv 2 i (by omega) (by omega)]; exact g2 i a b, fun i j a b c => by rw [hv 2 i (by omega) (by omega), hv 2 j (by omega) (by omega)]; exact g3 i j a b c⟩
theorem LW.mk {s s' : St} {M N : Int} {fi : Int → Int} {fc : Int → Int → Int} (hC : CI s) (hs : ∀ q k, q < 79 → ¬ (11 ≤ q ∧ q ≤ 20) → s' q k = s q k) (hR : R4 s' M N fi fc) (hB : B4 M N fi fc) (h8 : s 8 0 = 0) (h5 : N ≤ 5) (g0 : s' 79 0 = M) (g1 : s' 79 1 = N) (hi : ∀ w, 0 ≤ w → w < M → s' 81 w = fi w) (hc : ∀ w j, 0 ≤ w → w < M → 0 ≤ j → j < N → s' 80 (7 * w + j) = fc w j) : LW s' := by
  have hT := hR.tok hB
  obtain ⟨r0, r1, r2, r3⟩ := hR
  have b0 := hB.1
  have b1 := hB.2.1
  refine ⟨hC.t0 hs hT, by rw [hs 8 0 (by omega) (by omega)]; exact h8, by omega, by omega, by omega, fun w a b => ?_, fun w j a b c d => ?_⟩
  · rw [r2 w a (by omega)]; exact hi w a (by omega)
  · rw [r3 w j a (by omega) c (by omega)]; exact hc w j a (by omega) c (by omega)
/-- questions leave it -/
theorem LW.q {σ σ' : St} (h : LW σ) (hq : QQ σ σ') : LW σ' := by
  obtain ⟨h1, h2, h3, h4, h5, h6, h7⟩ := h
  have hm := (h1.1 0 (by omega) (by omega)).1
  have e : ∀ q k, (q = 8 ∨ (11 ≤ q ∧ q ≤ 20) ∨ 79 ≤ q) → σ' q k = σ q k := fun q k hk => hq.1 q k (by omega) (by omega) (by omega) (by omega) (by omega)
  have eb : ∀ k, σ' (TB 0) k = σ (TB 0) k := fun k => e _ _ (by unfold TB; omega)
  refine ⟨h1.of hq, by rw [e 8 0 (by omega)]; exact h2, by rw [eb]; exact h3, by rw [eb, e 79 0 (by omega)]; exact h4, by rw [eb, e 79 1 (by omega)]; exact h5, fun w a b => ?_, fun w j a b c d => ?_⟩
  · rw [eb] at b
    rw [e 81 w (by omega), e (TI 0) w (by unfold TI; omega)]; exact h6 w a b
  · rw [eb] at b d
    rw [e 80 _ (by omega), e (TR 0 w) j (by unfold TR; omega)]; exact h7 w j a b c d
theorem o_adW {s : St} {x n z q k : Int} (hm : 0 ≤ s (TB 0) 0 ∧ s (TB 0) 0 < 7) (hq : ¬ (11 ≤ q ∧ q ≤ 20)) : adW s 0 x n z q k = s q k := by
  unfold adW TI TR
  unfold TB at hm ⊢
  rw [if_neg (by omega), if_neg (by omega), if_neg (by omega)]
theorem o_adT {s : St} {j z q k : Int} (hm : 0 ≤ j ∧ j ≤ 7) (hq : ¬ (11 ≤ q ∧ q ≤ 20)) : adT s 0 j z q k = s q k := by
  unfold adT TR TB
  rw [if_neg (by omega), if_neg (by omega)]
theorem o_rmW {s : St} {d w v j q k : Int} (hm : 0 ≤ d ∧ 0 ≤ w ∧ w < 7) (hq : ¬ (11 ≤ q ∧ q ≤ 20)) : rmW s 0 d w v j q k = s q k := by
  unfold rmW TR TB TI
  rw [if_neg (by omega), if_neg (by omega), if_neg (by omega), if_neg (by omega)]
theorem o_rmT {s : St} {d w j q k : Int} (hm : 0 ≤ w ∧ w ≤ 7) (h0 : w = 7 → j ≤ d) (hq : ¬ (11 ≤ q ∧ q ≤ 20)) : rmT s 0 d w j q k = s q k := by
  unfold rmT TR TB
  rw [if_neg (by omega), if_neg (by omega), if_neg (by omega)]
theorem o_muC {s : St} {w f j q k : Int} (hm : 0 ≤ w ∧ w < 7) (hq : ¬ (11 ≤ q ∧ q ≤ 20)) : muC s 0 w f j q k = s q k := by
  unfold muC TR TI
  rw [if_neg (by omega), if_neg (by omega)]
theorem o_up {s : St} {a b v q k : Int} (h : q ≠ a) : up s a b v q k = s q k := by
  unfold up
  rw [if_neg (fun e => h e.1)]
/-- the state that is kept is the same but for the history -/
theorem kpL {σ σ1 : St} (h : LW σ) (e : ∀ q k, q < 79 → σ1 q k = σ q k) : CI σ1 ∧ CI (kp σ1) ∧ kp σ1 8 0 = 0 ∧ kp σ1 (TB 0) 0 = σ (TB 0) 0 ∧ kp σ1 (TB 0) 1 = σ (TB 0) 1 ∧ (∀ w, kp σ1 (TI 0) w = σ (TI 0) w) ∧ (∀ w j, 0 ≤ w → w < 7 → kp σ1 (TR 0 w) j = σ (TR 0 w) j) ∧ ∀ q k, 79 ≤ q → kp σ1 q k = σ1 q k := by
  have hC := h.1.hi e
  have ko := kp_o σ1 hC.2.1
  have kt := kp_T0 hC.2.1
  refine ⟨hC, hC.kept, ?_, ?_, ?_, fun w => ?_, fun w j a b => ?_, fun q k a => ko q k (by omega) (by omega) (by omega)⟩
  · rw [ko 8 0 (by omega) (by omega) (by omega), e 8 0 (by omega)]; exact h.2.1
  · rw [kt.1]; exact e _ _ (by unfold TB; omega)
  · rw [kt.2.1]; exact e _ _ (by unfold TB; omega)
  · rw [kt.2.2.1]; exact e _ _ (by unfold TI; omega)
  · rw [kt.2.2.2 w j a b]; exact e _ _ (by unfold TR; omega)
theorem L_worker {σ σ1 : St} {x : Int} (h : LW σ) (hm7 : σ (TB 0) 0 < 7) (hx : 0 ≤ x ∧ x ≤ 9999) (e : ∀ q k, q < 79 → σ1 q k = σ q k) (e0 : σ1 79 0 = σ (TB 0) 0 + 1) (e1 : σ1 79 1 = σ 79 1) (ei : ∀ w, w ≠ σ (TB 0) 0 → σ1 81 w = σ 81 w) (em : σ1 81 (σ (TB 0) 0) = x) (ec : ∀ k, ¬ (7 * σ (TB 0) 0 ≤ k ∧ k < 7 * σ (TB 0) 0 + 7) → σ1 80 k = σ 80 k) (ecm : ∀ j, 0 ≤ j → j < 7 → σ1 80 (7 * σ (TB 0) 0 + j) = -1) : LW (adW (kp σ1) 0 x (kp σ1 (TB 0) 1) 1) := by
  obtain ⟨c1, c2, c3, c4, c5, c6, c7, c8⟩ := kpL h e
  obtain ⟨h1, h2, h3, h4, h5, h6, h7⟩ := h
  obtain ⟨t0, t1, t2, t3⟩ := h1.1 0 (by omega) (by omega)
  have o : ∀ q k, ¬ (11 ≤ q ∧ q ≤ 20) → adW (kp σ1) 0 x (kp σ1 (TB 0) 1) 1 q k = kp σ1 q k := fun q k a => o_adW (by omega) a
  refine LW.mk c2 (fun q k _ a => o q k a) (r_adW c4 rfl (by omega)) ⟨by omega, by omega, fun w a b => ?_, fun w j a b c d => ?_⟩ c3 (by omega) ?_ ?_ (fun w a b => ?_) (fun w j a b c d => ?_)
  · exact ite_bd (fun _ => hx) (fun _ => by rw [c6]; exact t2 w a b)
  · exact ite_bd (fun _ => by omega) (fun _ => by rw [c7 w j a b]; exact t3 w j a b c d)
  · rw [o 79 0 (by omega), c8 79 0 (by omega), e0]
  · rw [o 79 1 (by omega), c8 79 1 (by omega), e1, h5, c5]
  · rw [o 81 w (by omega), c8 81 w (by omega)]
    show _ = if w = σ (TB 0) 0 then x else kp σ1 (TI 0) w
    by_cases hw : w = σ (TB 0) 0
    · rw [if_pos hw, hw]; exact em
    · rw [if_neg hw, ei w hw, c6]; exact h6 w a (by omega)
  · rw [o 80 _ (by omega), c8 80 _ (by omega)]
    show _ = if w = σ (TB 0) 0 ∧ j < kp σ1 (TB 0) 1 then -1 else kp σ1 (TR 0 w) j
    by_cases hw : w = σ (TB 0) 0
    · rw [if_pos ⟨hw, d⟩, hw]; exact ecm j c (by omega)
    · rw [if_neg (fun g => hw g.1), ec _ (by omega), c7 w j a (by omega)]; exact h7 w j a (by omega) c (by omega)
theorem L_task {σ σ1 : St} (h : LW σ) (hn5 : σ (TB 0) 1 < 5) (e : ∀ q k, q < 79 → σ1 q k = σ q k) (e0 : σ1 79 0 = σ 79 0) (e1 : σ1 79 1 = σ (TB 0) 1 + 1) (ei : ∀ w, σ1 81 w = σ 81 w) (ec : ∀ w j, 0 ≤ w → w < 7 → 0 ≤ j → j < 7 → j ≠ σ (TB 0) 1 → σ1 80 (7 * w + j) = σ 80 (7 * w + j)) (ecm : ∀ w, 0 ≤ w → w < 7 → σ1 80 (7 * w + σ (TB 0) 1) = -1) : LW (adT (kp σ1) 0 (kp σ1 (TB 0) 0) 1) := by
  obtain ⟨c1, c2, c3, c4, c5, c6, c7, c8⟩ := kpL h e
  obtain ⟨h1, h2, h3, h4, h5, h6, h7⟩ := h
  obtain ⟨t0, t1, t2, t3⟩ := h1.1 0 (by omega) (by omega)
  have o : ∀ q k, ¬ (11 ≤ q ∧ q ≤ 20) → adT (kp σ1) 0 (kp σ1 (TB 0) 0) 1 q k = kp σ1 q k := fun q k a => o_adT (by omega) a
  refine LW.mk c2 (fun q k _ a => o q k a) (r_adT rfl c5 (by omega)) ⟨by omega, by omega, fun w a b => ?_, fun w j a b c d => ?_⟩ c3 (by omega) ?_ ?_ (fun w a b => ?_) (fun w j a b c d => ?_)
  · show 0 ≤ kp σ1 (TI 0) w ∧ kp σ1 (TI 0) w ≤ 9999
    rw [c6]; exact t2 w a b
  · exact ite_bd (fun _ => by omega) (fun _ => by rw [c7 w j a b]; exact t3 w j a b c d)
  · rw [o 79 0 (by omega), c8 79 0 (by omega), e0, h4, c4]
  · rw [o 79 1 (by omega), c8 79 1 (by omega), e1]
  · rw [o 81 w (by omega), c8 81 w (by omega), ei]
    show _ = kp σ1 (TI 0) w
    rw [c6]; exact h6 w a (by omega)
  · rw [o 80 _ (by omega), c8 80 _ (by omega)]
    show _ = if w < kp σ1 (TB 0) 0 ∧ j = σ (TB 0) 1 then -1 else kp σ1 (TR 0 w) j
    by_cases hw : j = σ (TB 0) 1
    · rw [if_pos ⟨by omega, hw⟩, hw]; exact ecm w a (by omega)
    · rw [if_neg (fun g => hw g.2), ec w j a (by omega) c (by omega) hw, c7 w j a (by omega)]; exact h7 w j a (by omega) c (by omega)
theorem L_dropW {σ σ1 : St} {d0 : Int} (h : LW σ) (hd : 0 ≤ d0 ∧ d0 < σ (TB 0) 0) (e : ∀ q k, q < 79 → σ1 q k = σ q k) (e0 : σ1 79 0 = σ (TB 0) 0 - 1) (e1 : σ1 79 1 = σ 79 1) (ei : ∀ w, 0 ≤ w → w < 6 → σ1 81 w = if d0 ≤ w then σ 81 (w + 1) else σ 81 w) (ec : ∀ w j, 0 ≤ w → w < 6 → 0 ≤ j → j < 7 → σ1 80 (7 * w + j) = if d0 ≤ w then σ 80 (7 * (w + 1) + j) else σ 80 (7 * w + j)) : LW (rmW (kp σ1) 0 d0 (kp σ1 (TB 0) 0 - 1) (kp σ1 (TB 0) 0 - 1) 0) := by
  obtain ⟨c1, c2, c3, c4, c5, c6, c7, c8⟩ := kpL h e
  obtain ⟨h1, h2, h3, h4, h5, h6, h7⟩ := h
  obtain ⟨t0, t1, t2, t3⟩ := h1.1 0 (by omega) (by omega)
  rw [c4]
  have o : ∀ q k, ¬ (11 ≤ q ∧ q ≤ 20) → rmW (kp σ1) 0 d0 (σ (TB 0) 0 - 1) (σ (TB 0) 0 - 1) 0 q k = kp σ1 q k := fun q k a => o_rmW (by omega) a
  refine LW.mk c2 (fun q k _ a => o q k a) (r_rmW c4 c5 hd t0.2) ⟨by omega, by omega, fun w a b => ?_, fun w j a b c d => ?_⟩ c3 (by omega) ?_ ?_ (fun w a b => ?_) (fun w j a b c d => ?_)
  · exact ite_bd (fun g => by rw [c6]; exact t2 _ (by omega) (by omega)) (fun _ => by rw [c6]; exact t2 w a b)
  · exact ite_bd (fun g => by rw [c7 _ j (by omega) (by omega)]; exact t3 _ j (by omega) (by omega) c d) (fun _ => by rw [c7 w j a b]; exact t3 w j a b c d)
  · rw [o 79 0 (by omega), c8 79 0 (by omega), e0]
  · rw [o 79 1 (by omega), c8 79 1 (by omega), e1, h5]
  · rw [o 81 w (by omega), c8 81 w (by omega), ei w a (by omega)]
    show _ = if d0 ≤ w ∧ w < σ (TB 0) 0 - 1 then kp σ1 (TI 0) (w + 1) else kp σ1 (TI 0) w
    rw [c6, c6]
    by_cases hw : d0 ≤ w
    · rw [if_pos hw, if_pos ⟨hw, b⟩]; exact h6 _ (by omega) (by omega)
    · rw [if_neg hw, if_neg (fun g => hw g.1)]; exact h6 _ (by omega) (by omega)
  · rw [o 80 _ (by omega), c8 80 _ (by omega), ec w j a (by omega) c (by omega)]
    show _ = if d0 ≤ w ∧ w < σ (TB 0) 0 - 1 ∧ j < σ (TB 0) 1 then kp σ1 (TR 0 (w + 1)) j else kp σ1 (TR 0 w) j
    rw [c7 _ j (by omega) (by omega), c7 _ j (by omega) (by omega)]
    by_cases hw : d0 ≤ w
    · rw [if_pos hw, if_pos ⟨hw, b, d⟩]; exact h7 _ j (by omega) (by omega) c d
    · rw [if_neg hw, if_neg (fun g => hw g.1)]; exact h7 _ j (by omega) (by omega) c d
theorem L_dropT {σ σ1 : St} {d0 : Int} (h : LW σ) (hd : 0 ≤ d0 ∧ d0 < σ (TB 0) 1) (e : ∀ q k, q < 79 → σ1 q k = σ q k) (e0 : σ1 79 0 = σ 79 0) (e1 : σ1 79 1 = σ (TB 0) 1 - 1) (ei : ∀ w, σ1 81 w = σ 81 w) (ec : ∀ w j, 0 ≤ w → w < 7 → 0 ≤ j → j < 6 → σ1 80 (7 * w + j) = if d0 ≤ j then σ 80 (7 * w + (j + 1)) else σ 80 (7 * w + j)) : LW (rmT (kp σ1) 0 d0 (kp σ1 (TB 0) 0) d0) := by
  obtain ⟨c1, c2, c3, c4, c5, c6, c7, c8⟩ := kpL h e
  obtain ⟨h1, h2, h3, h4, h5, h6, h7⟩ := h
  obtain ⟨t0, t1, t2, t3⟩ := h1.1 0 (by omega) (by omega)
  rw [c4]
  have o : ∀ q k, ¬ (11 ≤ q ∧ q ≤ 20) → rmT (kp σ1) 0 d0 (σ (TB 0) 0) d0 q k = kp σ1 q k := fun q k a => o_rmT (by omega) (by omega) a
  refine LW.mk c2 (fun q k _ a => o q k a) (r_rmT c4 c5 hd t0) ⟨by omega, by omega, fun w a b => ?_, fun w j a b c d => ?_⟩ c3 (by omega) ?_ ?_ (fun w a b => ?_) (fun w j a b c d => ?_)
  · show 0 ≤ kp σ1 (TI 0) w ∧ kp σ1 (TI 0) w ≤ 9999
    rw [c6]; exact t2 w a b
  · exact ite_bd (fun g => by rw [c7 _ _ (by omega) (by omega)]; exact t3 _ _ (by omega) (by omega) (by omega) (by omega)) (fun _ => by rw [c7 w j a b]; exact t3 w j a b c d)
  · rw [o 79 0 (by omega), c8 79 0 (by omega), e0, h4]
  · rw [o 79 1 (by omega), c8 79 1 (by omega), e1]
  · rw [o 81 w (by omega), c8 81 w (by omega), ei]
    show _ = kp σ1 (TI 0) w
    rw [c6]; exact h6 w a (by omega)
  · rw [o 80 _ (by omega), c8 80 _ (by omega), ec w j a (by omega) c (by omega)]
    show _ = if w < σ (TB 0) 0 ∧ d0 ≤ j ∧ j < σ (TB 0) 1 - 1 then kp σ1 (TR 0 w) (j + 1) else kp σ1 (TR 0 w) j
    rw [c7 _ _ a (by omega), c7 _ _ a (by omega)]
    by_cases hw : d0 ≤ j
    · rw [if_pos hw, if_pos ⟨b, hw, d⟩]; exact h7 _ _ (by omega) (by omega) (by omega) (by omega)
    · rw [if_neg hw, if_neg (fun g => hw g.2.1)]; exact h7 _ j (by omega) (by omega) c (by omega)
theorem L_idle {σ σ1 : St} {v x : Int} (h : LW σ) (hv : 0 ≤ v ∧ v < σ (TB 0) 0) (hx : 0 ≤ x ∧ x ≤ 9999) (e : ∀ q k, ¬ (q = 81 ∧ k = v) → σ1 q k = σ q k) (em : σ1 81 v = x) : LW (up (kp σ1) (TI 0) v x) := by
  obtain ⟨c1, c2, c3, c4, c5, c6, c7, c8⟩ := kpL h (fun q k a => e q k (by omega))
  obtain ⟨h1, h2, h3, h4, h5, h6, h7⟩ := h
  obtain ⟨t0, t1, t2, t3⟩ := h1.1 0 (by omega) (by omega)
  have o : ∀ q k, ¬ (11 ≤ q ∧ q ≤ 20) → up (kp σ1) (TI 0) v x q k = kp σ1 q k := fun q k a => o_up (by unfold TI; omega)
  refine LW.mk c2 (fun q k _ a => o q k a) (r_id c4 c5) ⟨by omega, by omega, fun w a b => ?_, fun w j a b c d => ?_⟩ c3 (by omega) ?_ ?_ (fun w a b => ?_) (fun w j a b c d => ?_)
  · exact ite_bd (fun g => hx) (fun _ => by rw [c6]; exact t2 w a b)
  · show -1 ≤ kp σ1 (TR 0 w) j ∧ kp σ1 (TR 0 w) j ≤ 9999
    rw [c7 w j a b]; exact t3 w j a b c d
  · rw [o 79 0 (by omega), c8 79 0 (by omega), e _ _ (by omega), h4]
  · rw [o 79 1 (by omega), c8 79 1 (by omega), e _ _ (by omega), h5]
  · rw [o 81 w (by omega), c8 81 w (by omega)]
    show _ = if w = v then x else kp σ1 (TI 0) w
    rw [c6]
    by_cases hw : w = v
    · rw [if_pos hw, hw]; exact em
    · rw [if_neg hw, e _ _ (by omega)]; exact h6 w a b
  · rw [o 80 _ (by omega), c8 80 _ (by omega), e _ _ (by omega)]
    show _ = kp σ1 (TR 0 w) j
    rw [c7 w j a (by omega)]; exact h7 w j a b c d
theorem L_pair {σ σ1 : St} {v i x : Int} (h : LW σ) (hv : 0 ≤ v ∧ v < σ (TB 0) 0) (hi : 0 ≤ i ∧ i < σ (TB 0) 1) (hx : -1 ≤ x ∧ x ≤ 9999) (e : ∀ q k, ¬ (q = 80 ∧ k = 7 * v + i) → σ1 q k = σ q k) (em : σ1 80 (7 * v + i) = x) : LW (up (kp σ1) (TR 0 v) i x) := by
  obtain ⟨c1, c2, c3, c4, c5, c6, c7, c8⟩ := kpL h (fun q k a => e q k (by omega))
  obtain ⟨h1, h2, h3, h4, h5, h6, h7⟩ := h
  obtain ⟨t0, t1, t2, t3⟩ := h1.1 0 (by omega) (by omega)
  have o : ∀ q k, ¬ (11 ≤ q ∧ q ≤ 20) → up (kp σ1) (TR 0 v) i x q k = kp σ1 q k := fun q k a => o_up (by unfold TR; omega)
  refine LW.mk c2 (fun q k _ a => o q k a) (r_pr c4 c5 (by omega)) ⟨by omega, by omega, fun w a b => ?_, fun w j a b c d => ?_⟩ c3 (by omega) ?_ ?_ (fun w a b => ?_) (fun w j a b c d => ?_)
  · show 0 ≤ kp σ1 (TI 0) w ∧ kp σ1 (TI 0) w ≤ 9999
    rw [c6]; exact t2 w a b
  · exact ite_bd (fun g => hx) (fun _ => by rw [c7 w j a b]; exact t3 w j a b c d)
  · rw [o 79 0 (by omega), c8 79 0 (by omega), e _ _ (by omega), h4]
  · rw [o 79 1 (by omega), c8 79 1 (by omega), e _ _ (by omega), h5]
  · rw [o 81 w (by omega), c8 81 w (by omega), e _ _ (by omega)]
    show _ = kp σ1 (TI 0) w
    rw [c6]; exact h6 w a b
  · rw [o 80 _ (by omega), c8 80 _ (by omega)]
    show _ = if w = v ∧ j = i then x else kp σ1 (TR 0 w) j
    rw [c7 w j a (by omega)]
    by_cases hw : w = v ∧ j = i
    · rw [if_pos hw, hw.1, hw.2]; exact em
    · rw [if_neg hw, e _ _ (by omega)]; exact h7 w j a b c d
theorem L_times {σ σ1 : St} {v f : Int} (h : LW σ) (hv : 0 ≤ v ∧ v < σ (TB 0) 0) (hf : 0 ≤ f) (hg : gC σ 0 v (σ (TB 0) 1) * f ≤ 9999) (e : ∀ q k, ¬ (q = 81 ∧ k = v) → ¬ (q = 80 ∧ 7 * v ≤ k ∧ k < 7 * v + σ (TB 0) 1) → σ1 q k = σ q k) (em : σ1 81 v = σ 81 v * f) (ec : ∀ j, 0 ≤ j → j < σ (TB 0) 1 → σ1 80 (7 * v + j) = if σ 80 (7 * v + j) < 0 then -1 else σ 80 (7 * v + j) * f) : LW (muC (kp σ1) 0 v f (kp σ1 (TB 0) 1)) := by
  obtain ⟨c1, c2, c3, c4, c5, c6, c7, c8⟩ := kpL h (fun q k a => e q k (by omega) (by omega))
  obtain ⟨h1, h2, h3, h4, h5, h6, h7⟩ := h
  have hT := h1.1 0 (by omega) (by omega)
  have hG := gC_u hT (w := v) (by have := hT.1; omega)
  obtain ⟨t0, t1, t2, t3⟩ := hT
  have o : ∀ q k, ¬ (11 ≤ q ∧ q ≤ 20) → muC (kp σ1) 0 v f (kp σ1 (TB 0) 1) q k = kp σ1 q k := fun q k a => o_muC (by omega) a
  refine LW.mk c2 (fun q k _ a => o q k a) (r_muC c4 rfl (by omega)) ⟨by omega, by omega, fun w a b => ?_, fun w j a b c d => ?_⟩ c3 (by omega) ?_ ?_ (fun w a b => ?_) (fun w j a b c d => ?_)
  · refine ite_bd (fun g => ?_) (fun _ => by rw [c6]; exact t2 w a b)
    rw [c6]
    exact mul_b (t2 v (by omega) (by omega)).1 hG.2.1 hf hg
  · refine ite_bd (fun g => ?_) (fun _ => by rw [c7 w j a b]; exact t3 w j a b c d)
    have g3 := g.2.2
    rw [c7 v j (by omega) (by omega)] at g3 ⊢
    have h9 := t3 v j (by omega) (by omega) c d
    have h8 := mul_b (show 0 ≤ σ (TR 0 v) j by omega) (hG.2.2 j c (by omega)) hf hg
    omega
  · rw [o 79 0 (by omega), c8 79 0 (by omega), e _ _ (by omega) (by omega), h4]
  · rw [o 79 1 (by omega), c8 79 1 (by omega), e _ _ (by omega) (by omega), h5, c5]
  · rw [o 81 w (by omega), c8 81 w (by omega)]
    show _ = if w = v then kp σ1 (TI 0) v * f else kp σ1 (TI 0) w
    rw [c6, c6]
    by_cases hw : w = v
    · rw [if_pos hw, hw, em, h6 v (by omega) (by omega)]
    · rw [if_neg hw, e _ _ (by omega) (by omega)]; exact h6 w a b
  · rw [o 80 _ (by omega), c8 80 _ (by omega)]
    show _ = if w = v ∧ j < kp σ1 (TB 0) 1 ∧ kp σ1 (TR 0 v) j ≠ -1 then kp σ1 (TR 0 v) j * f else kp σ1 (TR 0 w) j
    rw [c7 w j a (by omega), c7 v j (by omega) (by omega)]
    by_cases hw : w = v
    · rw [hw, ec j c (by omega), h7 v j (by omega) (by omega) c (by omega)]
      have h9 := t3 v j (by omega) (by omega) c (by omega)
      by_cases h8 : σ (TR 0 v) j < 0
      · rw [if_pos h8, if_neg (fun g => g.2.2 (by omega))]; omega
      · rw [if_neg h8, if_pos ⟨rfl, d, by omega⟩]
    · rw [if_neg (fun g => hw g.1), e _ _ (by omega) (by omega)]; exact h7 w j a b c (by omega)

