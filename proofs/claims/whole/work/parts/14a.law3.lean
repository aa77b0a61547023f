/-! THE LAW: the changes, one by one -/
theorem ite_bd {c : Prop} [Decidable c] {a b lo hi : Int} (h1 : c → lo ≤ a ∧ a ≤ hi) (h2 : ¬ c → lo ≤ b ∧ b ≤ hi) : lo ≤ (if c then a else b) ∧ (if c then a else b) ≤ hi := by
  by_cases h : c
  · rw [if_pos h]; exact h1 h
  · rw [if_neg h]; exact h2 h
theorem r_adW {s : St} {x m n : Int} (h0 : s (TB 0) 0 = m) (h1 : s (TB 0) 1 = n) (hm : 0 ≤ m ∧ m < 7) : R4 (adW s 0 x n 1) (m + 1) n (fun w => if w = m then x else s (TI 0) w) (fun w j => if w = m ∧ j < n then -1 else s (TR 0 w) j) := by
  refine ⟨?_, ?_, fun w a b => ?_, fun w j a b c d => ?_⟩ <;> unfold adW <;> rw [h0] <;> (try rw [← h1]) <;> (try unfold TB) <;> (try unfold TI) <;> (try unfold TR) <;> (repeat' first | refine ite_l (fun h => ?_) (fun h => ?_) | refine ite_r (fun h => ?_) (fun h => ?_)) <;> first | rfl | omega
theorem r_adT {s : St} {m n : Int} (h0 : s (TB 0) 0 = m) (h1 : s (TB 0) 1 = n) (hm : 0 ≤ m ∧ m ≤ 7) : R4 (adT s 0 m 1) m (n + 1) (fun w => s (TI 0) w) (fun w j => if w < m ∧ j = n then -1 else s (TR 0 w) j) := by
  refine ⟨?_, ?_, fun w a b => ?_, fun w j a b c d => ?_⟩ <;> unfold adT <;> rw [h1] <;> (try rw [← h0]) <;> (try unfold TB) <;> (try unfold TI) <;> (try unfold TR) <;> (repeat' first | refine ite_l (fun h => ?_) (fun h => ?_) | refine ite_r (fun h => ?_) (fun h => ?_)) <;> first | rfl | omega
theorem r_rmW {s : St} {d m n : Int} (h0 : s (TB 0) 0 = m) (h1 : s (TB 0) 1 = n) (hd : 0 ≤ d ∧ d < m) (hm : m ≤ 7) : R4 (rmW s 0 d (m - 1) (m - 1) 0) (m - 1) n (fun w => if d ≤ w ∧ w < m - 1 then s (TI 0) (w + 1) else s (TI 0) w) (fun w j => if d ≤ w ∧ w < m - 1 ∧ j < n then s (TR 0 (w + 1)) j else s (TR 0 w) j) := by
  refine ⟨?_, ?_, fun w a b => ?_, fun w j a b c d => ?_⟩ <;> unfold rmW <;> rw [h0, h1] <;> (try rw [← h1]) <;> (try unfold TB) <;> (try unfold TI) <;> (try unfold TR) <;> (repeat' first | refine ite_l (fun h => ?_) (fun h => ?_) | refine ite_r (fun h => ?_) (fun h => ?_)) <;> first | rfl | omega | exact st_c (by omega) (by omega)
theorem r_rmT {s : St} {d m n : Int} (h0 : s (TB 0) 0 = m) (h1 : s (TB 0) 1 = n) (hd : 0 ≤ d ∧ d < n) (hm : 0 ≤ m ∧ m ≤ 7) : R4 (rmT s 0 d m d) m (n - 1) (fun w => s (TI 0) w) (fun w j => if w < m ∧ d ≤ j ∧ j < n - 1 then s (TR 0 w) (j + 1) else s (TR 0 w) j) := by
  refine ⟨?_, ?_, fun w a b => ?_, fun w j a b c d => ?_⟩ <;> unfold rmT <;> rw [h1] <;> (try rw [← h0]) <;> (try unfold TB) <;> (try unfold TI) <;> (try unfold TR) <;> (repeat' first | refine ite_l (fun h => ?_) (fun h => ?_) | refine ite_r (fun h => ?_) (fun h => ?_)) <;> first | rfl | omega | exact st_c (by omega) (by omega)
theorem r_muC {s : St} {v f m n : Int} (h0 : s (TB 0) 0 = m) (h1 : s (TB 0) 1 = n) (hv : 0 ≤ v ∧ v < 7) : R4 (muC s 0 v f n) m n (fun w => if w = v then s (TI 0) v * f else s (TI 0) w) (fun w j => if w = v ∧ j < n ∧ s (TR 0 v) j ≠ -1 then s (TR 0 v) j * f else s (TR 0 w) j) := by
  refine ⟨?_, ?_, fun w a b => ?_, fun w j a b c d => ?_⟩ <;> unfold muC <;> (try rw [← h0]) <;> (try rw [← h1]) <;> (try unfold TB) <;> (try unfold TI) <;> (try unfold TR) <;> (repeat' first | refine ite_l (fun h => ?_) (fun h => ?_) | refine ite_r (fun h => ?_) (fun h => ?_)) <;> first | rfl | omega | exact st_c (by omega) (by omega)
theorem r_pr {s : St} {v i c m n : Int} (h0 : s (TB 0) 0 = m) (h1 : s (TB 0) 1 = n) (hv : 0 ≤ v ∧ v < 7) : R4 (up s (TR 0 v) i c) m n (fun w => s (TI 0) w) (fun w j => if w = v ∧ j = i then c else s (TR 0 w) j) := by
  refine ⟨?_, ?_, fun w a b => ?_, fun w j a b c d => ?_⟩ <;> unfold up <;> (try rw [← h0]) <;> (try rw [← h1]) <;> (try unfold TB) <;> (try unfold TI) <;> (try unfold TR) <;> (repeat' first | refine ite_l (fun h => ?_) (fun h => ?_) | refine ite_r (fun h => ?_) (fun h => ?_)) <;> first | rfl | omega | exact st_c (by omega) (by omega)
theorem r_id {s : St} {v x m n : Int} (h0 : s (TB 0) 0 = m) (h1 : s (TB 0) 1 = n) : R4 (up s (TI 0) v x) m n (fun w => if w = v then x else s (TI 0) w) (fun w j => s (TR 0 w) j) := by
  refine ⟨?_, ?_, fun w a b => ?_, fun w j a b c d => ?_⟩ <;> unfold up <;> (try rw [← h0]) <;> (try rw [← h1]) <;> (try unfold TB) <;> (try unfold TI) <;> (try unfold TR) <;> (repeat' first | refine ite_l (fun h => ?_) (fun h => ?_) | refine ite_r (fun h => ?_) (fun h => ?_)) <;> first | rfl | omega | exact st_c (by omega) (by omega)
theorem g_wk {σ : St} {x m n : Int} (h0 : σ 80 0 = m) (h1 : σ 80 1 = n) (hm : 0 ≤ m ∧ m < 7) : G4 (wkM σ x 80) (m + 1) n (fun w => if w = m then x else σ 80 (2 + w)) (fun w j => if w = m then -1 else σ 80 (9 + 7 * w + j)) := by
  refine ⟨?_, ?_, fun w a b => ?_, fun w j a b c d => ?_⟩ <;> unfold wkM up fl <;> rw [h0] <;> (try rw [← h1]) <;> (repeat' first | refine ite_l (fun h => ?_) (fun h => ?_) | refine ite_r (fun h => ?_) (fun h => ?_)) <;> first | rfl | omega | exact chg_o σ (by omega) (by omega)
theorem g_ts {σ : St} {m n : Int} (h0 : σ 80 0 = m) (h1 : σ 80 1 = n) (hn : 0 ≤ n ∧ n < 7) : G4 (tsM σ 80) m (n + 1) (fun w => σ 80 (2 + w)) (fun w j => if j = n then -1 else σ 80 (9 + 7 * w + j)) := by
  refine ⟨?_, ?_, fun w a b => ?_, fun w j a b c d => ?_⟩ <;> unfold tsM up flc <;> rw [h1] <;> (try rw [← h0]) <;> (repeat' first | refine ite_l (fun h => ?_) (fun h => ?_) | refine ite_r (fun h => ?_) (fun h => ?_)) <;> first | rfl | omega | exact chg_o σ (by omega) (by omega)
theorem g_dw {σ : St} {d m n : Int} (h0 : σ 80 0 = m) (h1 : σ 80 1 = n) (hd : 0 ≤ d ∧ d < m) (hm : m ≤ 7) : G4 (dwM σ d 80) (m - 1) n (fun w => if d ≤ w ∧ w < m - 1 then σ 80 (2 + (w + 1)) else σ 80 (2 + w)) (fun w j => if d ≤ w ∧ w < m - 1 then σ 80 (9 + 7 * (w + 1) + j) else σ 80 (9 + 7 * w + j)) := by
  have key : ∀ k, 0 ≤ k → k < 58 → dwM σ d 80 k = if k = 0 then m - 1 else if 2 + d ≤ k ∧ k < 2 + (m - 1) then σ 80 (k + 1) else if 9 + 7 * d ≤ k ∧ k < 9 + 7 * (m - 1) then σ 80 (k + 7) else σ 80 k := fun k a b => by
    unfold dwM drw
    rw [h0]
    repeat' first | refine ite_l (fun h => ?_) (fun h => ?_) | refine ite_r (fun h => ?_) (fun h => ?_)
    all_goals first | omega | exact chg_o σ (by omega) (by omega) | (rw [up_o (by omega)]; exact chg_o σ (by omega) (by omega)) | (rw [show k = 0 by omega]; exact up_e)
  refine ⟨?_, ?_, fun w a b => ?_, fun w j a b c d => ?_⟩ <;> rw [key _ (by omega) (by omega)] <;> (try rw [← h1]) <;> (repeat' first | refine ite_l (fun h => ?_) (fun h => ?_) | refine ite_r (fun h => ?_) (fun h => ?_)) <;> first | rfl | omega | exact st_c (by omega) (by omega)
theorem g_dt {σ : St} {d m n : Int} (h0 : σ 80 0 = m) (h1 : σ 80 1 = n) (hd : 0 ≤ d ∧ d < n) (hn : n ≤ 7) (hm : 0 ≤ m ∧ m ≤ 7) : G4 (dtM σ d 80) m (n - 1) (fun w => σ 80 (2 + w)) (fun w j => if w < m ∧ d ≤ j ∧ j < n - 1 then σ 80 (9 + 7 * w + (j + 1)) else σ 80 (9 + 7 * w + j)) := by
  have key : ∀ k, 0 ≤ k → k < 58 → dtM σ d 80 k = if k = 1 then n - 1 else if 9 ≤ k ∧ d ≤ (k - 9) % 7 ∧ (k - 9) % 7 < n - 1 ∧ (k - 9) / 7 < m then σ 80 (k + 1) else σ 80 k := fun k a b => by
    unfold dtM drt
    rw [h0, h1]
    repeat' first | refine ite_l (fun h => ?_) (fun h => ?_) | refine ite_r (fun h => ?_) (fun h => ?_)
    all_goals first | omega | exact chg_o σ (by omega) (by omega) | (rw [up_o (by omega)]; exact chg_o σ (by omega) (by omega)) | (rw [show k = 1 by omega]; exact up_e)
  refine ⟨?_, ?_, fun w a b => ?_, fun w j a b c d => ?_⟩ <;> rw [key _ (by omega) (by omega)] <;> (try rw [← h0]) <;> (repeat' first | refine ite_l (fun h => ?_) (fun h => ?_) | refine ite_r (fun h => ?_) (fun h => ?_)) <;> first | rfl | omega | exact st_c (by omega) (by omega)
theorem g_pr {σ : St} {v i c m n : Int} (h0 : σ 80 0 = m) (h1 : σ 80 1 = n) (hv : 0 ≤ v ∧ v < 7) (hi : 0 ≤ i ∧ i < 7) : G4 (prM σ v i c 80) m n (fun w => σ 80 (2 + w)) (fun w j => if w = v ∧ j = i then c else σ 80 (9 + 7 * w + j)) := by
  refine ⟨?_, ?_, fun w a b => ?_, fun w j a b c d => ?_⟩ <;> unfold prM up <;> (try rw [← h0]) <;> (try rw [← h1]) <;> (repeat' first | refine ite_l (fun h => ?_) (fun h => ?_) | refine ite_r (fun h => ?_) (fun h => ?_)) <;> first | rfl | omega | exact chg_o σ (by omega) (by omega)
theorem g_id {σ : St} {v x m n : Int} (h0 : σ 80 0 = m) (h1 : σ 80 1 = n) (hv : 0 ≤ v ∧ v < 7) : G4 (up (chg σ) 80 (2 + v) x 80) m n (fun w => if w = v then x else σ 80 (2 + w)) (fun w j => σ 80 (9 + 7 * w + j)) := by
  refine ⟨?_, ?_, fun w a b => ?_, fun w j a b c d => ?_⟩ <;> unfold up <;> (try rw [← h0]) <;> (try rw [← h1]) <;> (repeat' first | refine ite_l (fun h => ?_) (fun h => ?_) | refine ite_r (fun h => ?_) (fun h => ?_)) <;> first | rfl | omega | exact chg_o σ (by omega) (by omega)
theorem g_tm {σ : St} {v f m n : Int} (h0 : σ 80 0 = m) (h1 : σ 80 1 = n) (hv : 0 ≤ v ∧ v < 7) (hn : n ≤ 7) : G4 (tmM σ v f 80) m n (fun w => if w = v then σ 80 (2 + v) * f else σ 80 (2 + w)) (fun w j => if w = v ∧ j < n then (if 0 < σ 80 (9 + 7 * v + j) then σ 80 (9 + 7 * v + j) * f else σ 80 (9 + 7 * v + j)) else σ 80 (9 + 7 * w + j)) := by
  refine ⟨?_, ?_, fun w a b => ?_, fun w j a b c d => ?_⟩
  · rw [tmM_o (by omega) (by omega) (by omega)]; exact h0
  · rw [tmM_o (by omega) (by omega) (by omega)]; exact h1
  · by_cases h : w = v
    · show _ = if w = v then _ else _
      rw [if_pos h, h, tmM_d hv.1]; rfl
    · show _ = if w = v then _ else _
      rw [if_neg h, tmM_o (by omega) (by omega) (by omega)]
  · by_cases h : w = v ∧ j < n
    · show _ = if w = v ∧ j < n then _ else _
      rw [if_pos h, h.1, tmM_c hv.1 (by omega)]; rfl
    · show _ = if w = v ∧ j < n then _ else _
      rw [if_neg h, tmM_o (by omega) (by omega) (by omega)]
