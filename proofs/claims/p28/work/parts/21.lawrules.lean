/-! MY RULES FOR THE LAW: more locals, quotients, arrays of its own, static calls -/
theorem iI_div {a b : Int} (ha : InR a) (hb : InR b) (h0 : 0 ≤ a) (h1 : 0 < b) : iI a / iI b = iI (a / b) := by
  rw [← Int32.toInt_inj, Int32.toInt_div, iI_toInt ha, iI_toInt hb]
  have h2 : a / b ≤ a := Int.ediv_le_self b h0
  have h3 : 0 ≤ a / b := Int.ediv_nonneg h0 (by omega)
  rw [iI_toInt ⟨by omega, by have := ha.2; omega⟩, Int.tdiv_eq_ediv_of_nonneg h0]
  unfold InR at ha
  apply Int.bmod_eq_of_le <;> omega
theorem iI_ne0 {b : Int} (hb : InR b) (h : b ≠ 0) : ¬ iI b = 0 := fun e => h ((iI_eq hb InR_0).mp e)
section LAWRULES
variable {E : EV} {ad : Int → Nat} {cc : ByteArray} {nL : Nat} {own : String} {Ts : List Cond} {fr lo : Nat} {σ : St} {pc : Nat} {lv : List (Option Value)} {st : List Value}
theorem g_idiv (X : Cx E ad cc nL own Ts fr lo) {a b : Int} (ha : InR a) (hb0 : InR b) (h0 : 0 ≤ a) (h1 : 0 < b) (hdg : decode cc pc = .ok (.idiv, 1)) (k : WG E ad nL σ (pc + 1) lv (.int (iI (a / b)) :: st)) : WG E ad nL σ (pc) lv (.int (iI b) :: .int (iI a) :: st) := by
  obtain ⟨p, l, e, R, s, m, args, below, meth, c, Q, D, cy, A, kc, ks⟩ := E
  obtain ⟨hx, hb, hml, hown, hts, hK, hAp, hAA, hkc, hks, hfr, hlo⟩ := X
  intro hR H locs ls hP hS hl
  refine lv_idiv hx hb hdg (iI_ne0 hb0 (by omega)) ?_
  rw [iI_div ha hb0 h0 h1]
  exact k hR H locs ls hP hS hl
theorem g_irem (X : Cx E ad cc nL own Ts fr lo) {a b : Int} (ha : InR a) (hb0 : InR b) (h0 : 0 ≤ a) (h1 : 0 < b) (hdg : decode cc pc = .ok (.irem, 1)) (k : WG E ad nL σ (pc + 1) lv (.int (iI (a % b)) :: st)) : WG E ad nL σ (pc) lv (.int (iI b) :: .int (iI a) :: st) := by
  obtain ⟨p, l, e, R, s, m, args, below, meth, c, Q, D, cy, A, kc, ks⟩ := E
  obtain ⟨hx, hb, hml, hown, hts, hK, hAp, hAA, hkc, hks, hfr, hlo⟩ := X
  intro hR H locs ls hP hS hl
  refine lv_irem hx hb hdg (iI_ne0 hb0 (by omega)) ?_
  rw [iI_div ha hb0 h0 h1, iI_mul, iI_sub, show a - a / b * b = a % b from by have := Int.emod_def a b; rw [Int.mul_comm] at this; omega]
  exact k hR H locs ls hP hS hl
theorem g_iload9 (X : Cx E ad cc nL own Ts fr lo) {a0 a1 a2 a3 a4 a5 a6 a7 a8 : Option Value} {r : List (Option Value)} {x : Int32} (hdg : decode cc pc = .ok (.iload 9, 2)) (k : WG E ad nL σ (pc + 2) (a0 :: a1 :: a2 :: a3 :: a4 :: a5 :: a6 :: a7 :: a8 :: some (.int x) :: r) (.int x :: st)) : WG E ad nL σ (pc) (a0 :: a1 :: a2 :: a3 :: a4 :: a5 :: a6 :: a7 :: a8 :: some (.int x) :: r) (st) := by
  obtain ⟨p, l, e, R, s, m, args, below, meth, c, Q, D, cy, A, kc, ks⟩ := E
  obtain ⟨hx, hb, hml, hown, hts, hK, hAp, hAA, hkc, hks, hfr, hlo⟩ := X
  intro hR H locs ls hP hS hl
  exact lv_iload hx hb hdg (hl.2.2 9 _ rfl) (k hR H locs ls hP hS hl)
theorem g_istore9 (X : Cx E ad cc nL own Ts fr lo) {a0 a1 a2 a3 a4 a5 a6 a7 a8 : Option Value} {r : List (Option Value)} {u : Option Value} {x : Int32} (hdg : decode cc pc = .ok (.istore 9, 2)) (hn : 9 < nL) (hc : a8 = none ∨ ∃ v, a8 = some v ∧ v.category = 1) (k : WG E ad nL σ (pc + 2) (a0 :: a1 :: a2 :: a3 :: a4 :: a5 :: a6 :: a7 :: a8 :: some (.int x) :: r) (st)) : WG E ad nL σ (pc) (a0 :: a1 :: a2 :: a3 :: a4 :: a5 :: a6 :: a7 :: a8 :: u :: r) (.int x :: st) := by
  obtain ⟨p, l, e, R, s, m, args, below, meth, c, Q, D, cy, A, kc, ks⟩ := E
  obtain ⟨hx, hb, hml, hown, hts, hK, hAp, hAA, hkc, hks, hfr, hlo⟩ := X
  intro hR H locs ls hP hS hl
  refine lv_istore (i := 9) hx hb hdg hl.has hn rfl (fun ls2 hl2 => ?_)
  exact k hR H locs ls2 hP hS (LV.put hl2 (fun v hv => Or.inr (by
        have e9 : a8 = some v := Option.some.inj hv
        rcases hc with h9 | ⟨v9, h9, h8⟩
        · rw [h9] at e9; cases e9
        · rw [h9] at e9; cases e9; exact h8)))
theorem g_iinc9 (X : Cx E ad cc nL own Ts fr lo) {a0 a1 a2 a3 a4 a5 a6 a7 a8 : Option Value} {r : List (Option Value)} {z n : Int} (hdg : decode cc pc = .ok (.iinc 9 n, 3)) (hn : 9 < nL) (hc : a8 = none ∨ ∃ v, a8 = some v ∧ v.category = 1) (k : WG E ad nL σ (pc + 3) (a0 :: a1 :: a2 :: a3 :: a4 :: a5 :: a6 :: a7 :: a8 :: some (.int (iI (z + n))) :: r) (st)) : WG E ad nL σ (pc) (a0 :: a1 :: a2 :: a3 :: a4 :: a5 :: a6 :: a7 :: a8 :: some (.int (iI z)) :: r) (st) := by
  obtain ⟨p, l, e, R, s, m, args, below, meth, c, Q, D, cy, A, kc, ks⟩ := E
  obtain ⟨hx, hb, hml, hown, hts, hK, hAp, hAA, hkc, hks, hfr, hlo⟩ := X
  intro hR H locs ls hP hS hl
  obtain ⟨kk, hkk⟩ := List.getElem?_of_mem (lvl_mem.mpr (show (a0 :: a1 :: a2 :: a3 :: a4 :: a5 :: a6 :: a7 :: a8 :: some (.int (iI z)) :: r)[9]? = some (some (Value.int (iI z))) from rfl))
  refine lv_iinc (k := kk) (v := iI (z + n)) hx hb hdg hl.has hkk (iI_add z n) hn rfl (fun ls2 hl2 => ?_)
  exact k hR H locs ls2 hP hS (LV.put hl2 (fun v hv => Or.inr (by
        have e9 : a8 = some v := Option.some.inj hv
        rcases hc with h9 | ⟨v9, h9, h8⟩
        · rw [h9] at e9; cases e9
        · rw [h9] at e9; cases e9; exact h8)))
theorem g_iload10 (X : Cx E ad cc nL own Ts fr lo) {a0 a1 a2 a3 a4 a5 a6 a7 a8 a9 : Option Value} {r : List (Option Value)} {x : Int32} (hdg : decode cc pc = .ok (.iload 10, 2)) (k : WG E ad nL σ (pc + 2) (a0 :: a1 :: a2 :: a3 :: a4 :: a5 :: a6 :: a7 :: a8 :: a9 :: some (.int x) :: r) (.int x :: st)) : WG E ad nL σ (pc) (a0 :: a1 :: a2 :: a3 :: a4 :: a5 :: a6 :: a7 :: a8 :: a9 :: some (.int x) :: r) (st) := by
  obtain ⟨p, l, e, R, s, m, args, below, meth, c, Q, D, cy, A, kc, ks⟩ := E
  obtain ⟨hx, hb, hml, hown, hts, hK, hAp, hAA, hkc, hks, hfr, hlo⟩ := X
  intro hR H locs ls hP hS hl
  exact lv_iload hx hb hdg (hl.2.2 10 _ rfl) (k hR H locs ls hP hS hl)
theorem g_istore10 (X : Cx E ad cc nL own Ts fr lo) {a0 a1 a2 a3 a4 a5 a6 a7 a8 a9 : Option Value} {r : List (Option Value)} {u : Option Value} {x : Int32} (hdg : decode cc pc = .ok (.istore 10, 2)) (hn : 10 < nL) (hc : a9 = none ∨ ∃ v, a9 = some v ∧ v.category = 1) (k : WG E ad nL σ (pc + 2) (a0 :: a1 :: a2 :: a3 :: a4 :: a5 :: a6 :: a7 :: a8 :: a9 :: some (.int x) :: r) (st)) : WG E ad nL σ (pc) (a0 :: a1 :: a2 :: a3 :: a4 :: a5 :: a6 :: a7 :: a8 :: a9 :: u :: r) (.int x :: st) := by
  obtain ⟨p, l, e, R, s, m, args, below, meth, c, Q, D, cy, A, kc, ks⟩ := E
  obtain ⟨hx, hb, hml, hown, hts, hK, hAp, hAA, hkc, hks, hfr, hlo⟩ := X
  intro hR H locs ls hP hS hl
  refine lv_istore (i := 10) hx hb hdg hl.has hn rfl (fun ls2 hl2 => ?_)
  exact k hR H locs ls2 hP hS (LV.put hl2 (fun v hv => Or.inr (by
        have e9 : a9 = some v := Option.some.inj hv
        rcases hc with h9 | ⟨v9, h9, h8⟩
        · rw [h9] at e9; cases e9
        · rw [h9] at e9; cases e9; exact h8)))
theorem g_iinc10 (X : Cx E ad cc nL own Ts fr lo) {a0 a1 a2 a3 a4 a5 a6 a7 a8 a9 : Option Value} {r : List (Option Value)} {z n : Int} (hdg : decode cc pc = .ok (.iinc 10 n, 3)) (hn : 10 < nL) (hc : a9 = none ∨ ∃ v, a9 = some v ∧ v.category = 1) (k : WG E ad nL σ (pc + 3) (a0 :: a1 :: a2 :: a3 :: a4 :: a5 :: a6 :: a7 :: a8 :: a9 :: some (.int (iI (z + n))) :: r) (st)) : WG E ad nL σ (pc) (a0 :: a1 :: a2 :: a3 :: a4 :: a5 :: a6 :: a7 :: a8 :: a9 :: some (.int (iI z)) :: r) (st) := by
  obtain ⟨p, l, e, R, s, m, args, below, meth, c, Q, D, cy, A, kc, ks⟩ := E
  obtain ⟨hx, hb, hml, hown, hts, hK, hAp, hAA, hkc, hks, hfr, hlo⟩ := X
  intro hR H locs ls hP hS hl
  obtain ⟨kk, hkk⟩ := List.getElem?_of_mem (lvl_mem.mpr (show (a0 :: a1 :: a2 :: a3 :: a4 :: a5 :: a6 :: a7 :: a8 :: a9 :: some (.int (iI z)) :: r)[10]? = some (some (Value.int (iI z))) from rfl))
  refine lv_iinc (k := kk) (v := iI (z + n)) hx hb hdg hl.has hkk (iI_add z n) hn rfl (fun ls2 hl2 => ?_)
  exact k hR H locs ls2 hP hS (LV.put hl2 (fun v hv => Or.inr (by
        have e9 : a9 = some v := Option.some.inj hv
        rcases hc with h9 | ⟨v9, h9, h8⟩
        · rw [h9] at e9; cases e9
        · rw [h9] at e9; cases e9; exact h8)))
theorem g_iload11 (X : Cx E ad cc nL own Ts fr lo) {a0 a1 a2 a3 a4 a5 a6 a7 a8 a9 a10 : Option Value} {r : List (Option Value)} {x : Int32} (hdg : decode cc pc = .ok (.iload 11, 2)) (k : WG E ad nL σ (pc + 2) (a0 :: a1 :: a2 :: a3 :: a4 :: a5 :: a6 :: a7 :: a8 :: a9 :: a10 :: some (.int x) :: r) (.int x :: st)) : WG E ad nL σ (pc) (a0 :: a1 :: a2 :: a3 :: a4 :: a5 :: a6 :: a7 :: a8 :: a9 :: a10 :: some (.int x) :: r) (st) := by
  obtain ⟨p, l, e, R, s, m, args, below, meth, c, Q, D, cy, A, kc, ks⟩ := E
  obtain ⟨hx, hb, hml, hown, hts, hK, hAp, hAA, hkc, hks, hfr, hlo⟩ := X
  intro hR H locs ls hP hS hl
  exact lv_iload hx hb hdg (hl.2.2 11 _ rfl) (k hR H locs ls hP hS hl)
theorem g_istore11 (X : Cx E ad cc nL own Ts fr lo) {a0 a1 a2 a3 a4 a5 a6 a7 a8 a9 a10 : Option Value} {r : List (Option Value)} {u : Option Value} {x : Int32} (hdg : decode cc pc = .ok (.istore 11, 2)) (hn : 11 < nL) (hc : a10 = none ∨ ∃ v, a10 = some v ∧ v.category = 1) (k : WG E ad nL σ (pc + 2) (a0 :: a1 :: a2 :: a3 :: a4 :: a5 :: a6 :: a7 :: a8 :: a9 :: a10 :: some (.int x) :: r) (st)) : WG E ad nL σ (pc) (a0 :: a1 :: a2 :: a3 :: a4 :: a5 :: a6 :: a7 :: a8 :: a9 :: a10 :: u :: r) (.int x :: st) := by
  obtain ⟨p, l, e, R, s, m, args, below, meth, c, Q, D, cy, A, kc, ks⟩ := E
  obtain ⟨hx, hb, hml, hown, hts, hK, hAp, hAA, hkc, hks, hfr, hlo⟩ := X
  intro hR H locs ls hP hS hl
  refine lv_istore (i := 11) hx hb hdg hl.has hn rfl (fun ls2 hl2 => ?_)
  exact k hR H locs ls2 hP hS (LV.put hl2 (fun v hv => Or.inr (by
        have e9 : a10 = some v := Option.some.inj hv
        rcases hc with h9 | ⟨v9, h9, h8⟩
        · rw [h9] at e9; cases e9
        · rw [h9] at e9; cases e9; exact h8)))
theorem g_iinc11 (X : Cx E ad cc nL own Ts fr lo) {a0 a1 a2 a3 a4 a5 a6 a7 a8 a9 a10 : Option Value} {r : List (Option Value)} {z n : Int} (hdg : decode cc pc = .ok (.iinc 11 n, 3)) (hn : 11 < nL) (hc : a10 = none ∨ ∃ v, a10 = some v ∧ v.category = 1) (k : WG E ad nL σ (pc + 3) (a0 :: a1 :: a2 :: a3 :: a4 :: a5 :: a6 :: a7 :: a8 :: a9 :: a10 :: some (.int (iI (z + n))) :: r) (st)) : WG E ad nL σ (pc) (a0 :: a1 :: a2 :: a3 :: a4 :: a5 :: a6 :: a7 :: a8 :: a9 :: a10 :: some (.int (iI z)) :: r) (st) := by
  obtain ⟨p, l, e, R, s, m, args, below, meth, c, Q, D, cy, A, kc, ks⟩ := E
  obtain ⟨hx, hb, hml, hown, hts, hK, hAp, hAA, hkc, hks, hfr, hlo⟩ := X
  intro hR H locs ls hP hS hl
  obtain ⟨kk, hkk⟩ := List.getElem?_of_mem (lvl_mem.mpr (show (a0 :: a1 :: a2 :: a3 :: a4 :: a5 :: a6 :: a7 :: a8 :: a9 :: a10 :: some (.int (iI z)) :: r)[11]? = some (some (Value.int (iI z))) from rfl))
  refine lv_iinc (k := kk) (v := iI (z + n)) hx hb hdg hl.has hkk (iI_add z n) hn rfl (fun ls2 hl2 => ?_)
  exact k hR H locs ls2 hP hS (LV.put hl2 (fun v hv => Or.inr (by
        have e9 : a10 = some v := Option.some.inj hv
        rcases hc with h9 | ⟨v9, h9, h8⟩
        · rw [h9] at e9; cases e9
        · rw [h9] at e9; cases e9; exact h8)))
theorem g_iload12 (X : Cx E ad cc nL own Ts fr lo) {a0 a1 a2 a3 a4 a5 a6 a7 a8 a9 a10 a11 : Option Value} {r : List (Option Value)} {x : Int32} (hdg : decode cc pc = .ok (.iload 12, 2)) (k : WG E ad nL σ (pc + 2) (a0 :: a1 :: a2 :: a3 :: a4 :: a5 :: a6 :: a7 :: a8 :: a9 :: a10 :: a11 :: some (.int x) :: r) (.int x :: st)) : WG E ad nL σ (pc) (a0 :: a1 :: a2 :: a3 :: a4 :: a5 :: a6 :: a7 :: a8 :: a9 :: a10 :: a11 :: some (.int x) :: r) (st) := by
  obtain ⟨p, l, e, R, s, m, args, below, meth, c, Q, D, cy, A, kc, ks⟩ := E
  obtain ⟨hx, hb, hml, hown, hts, hK, hAp, hAA, hkc, hks, hfr, hlo⟩ := X
  intro hR H locs ls hP hS hl
  exact lv_iload hx hb hdg (hl.2.2 12 _ rfl) (k hR H locs ls hP hS hl)
theorem g_istore12 (X : Cx E ad cc nL own Ts fr lo) {a0 a1 a2 a3 a4 a5 a6 a7 a8 a9 a10 a11 : Option Value} {r : List (Option Value)} {u : Option Value} {x : Int32} (hdg : decode cc pc = .ok (.istore 12, 2)) (hn : 12 < nL) (hc : a11 = none ∨ ∃ v, a11 = some v ∧ v.category = 1) (k : WG E ad nL σ (pc + 2) (a0 :: a1 :: a2 :: a3 :: a4 :: a5 :: a6 :: a7 :: a8 :: a9 :: a10 :: a11 :: some (.int x) :: r) (st)) : WG E ad nL σ (pc) (a0 :: a1 :: a2 :: a3 :: a4 :: a5 :: a6 :: a7 :: a8 :: a9 :: a10 :: a11 :: u :: r) (.int x :: st) := by
  obtain ⟨p, l, e, R, s, m, args, below, meth, c, Q, D, cy, A, kc, ks⟩ := E
  obtain ⟨hx, hb, hml, hown, hts, hK, hAp, hAA, hkc, hks, hfr, hlo⟩ := X
  intro hR H locs ls hP hS hl
  refine lv_istore (i := 12) hx hb hdg hl.has hn rfl (fun ls2 hl2 => ?_)
  exact k hR H locs ls2 hP hS (LV.put hl2 (fun v hv => Or.inr (by
        have e9 : a11 = some v := Option.some.inj hv
        rcases hc with h9 | ⟨v9, h9, h8⟩
        · rw [h9] at e9; cases e9
        · rw [h9] at e9; cases e9; exact h8)))
theorem g_iinc12 (X : Cx E ad cc nL own Ts fr lo) {a0 a1 a2 a3 a4 a5 a6 a7 a8 a9 a10 a11 : Option Value} {r : List (Option Value)} {z n : Int} (hdg : decode cc pc = .ok (.iinc 12 n, 3)) (hn : 12 < nL) (hc : a11 = none ∨ ∃ v, a11 = some v ∧ v.category = 1) (k : WG E ad nL σ (pc + 3) (a0 :: a1 :: a2 :: a3 :: a4 :: a5 :: a6 :: a7 :: a8 :: a9 :: a10 :: a11 :: some (.int (iI (z + n))) :: r) (st)) : WG E ad nL σ (pc) (a0 :: a1 :: a2 :: a3 :: a4 :: a5 :: a6 :: a7 :: a8 :: a9 :: a10 :: a11 :: some (.int (iI z)) :: r) (st) := by
  obtain ⟨p, l, e, R, s, m, args, below, meth, c, Q, D, cy, A, kc, ks⟩ := E
  obtain ⟨hx, hb, hml, hown, hts, hK, hAp, hAA, hkc, hks, hfr, hlo⟩ := X
  intro hR H locs ls hP hS hl
  obtain ⟨kk, hkk⟩ := List.getElem?_of_mem (lvl_mem.mpr (show (a0 :: a1 :: a2 :: a3 :: a4 :: a5 :: a6 :: a7 :: a8 :: a9 :: a10 :: a11 :: some (.int (iI z)) :: r)[12]? = some (some (Value.int (iI z))) from rfl))
  refine lv_iinc (k := kk) (v := iI (z + n)) hx hb hdg hl.has hkk (iI_add z n) hn rfl (fun ls2 hl2 => ?_)
  exact k hR H locs ls2 hP hS (LV.put hl2 (fun v hv => Or.inr (by
        have e9 : a11 = some v := Option.some.inj hv
        rcases hc with h9 | ⟨v9, h9, h8⟩
        · rw [h9] at e9; cases e9
        · rw [h9] at e9; cases e9; exact h8)))
theorem g_iload13 (X : Cx E ad cc nL own Ts fr lo) {a0 a1 a2 a3 a4 a5 a6 a7 a8 a9 a10 a11 a12 : Option Value} {r : List (Option Value)} {x : Int32} (hdg : decode cc pc = .ok (.iload 13, 2)) (k : WG E ad nL σ (pc + 2) (a0 :: a1 :: a2 :: a3 :: a4 :: a5 :: a6 :: a7 :: a8 :: a9 :: a10 :: a11 :: a12 :: some (.int x) :: r) (.int x :: st)) : WG E ad nL σ (pc) (a0 :: a1 :: a2 :: a3 :: a4 :: a5 :: a6 :: a7 :: a8 :: a9 :: a10 :: a11 :: a12 :: some (.int x) :: r) (st) := by
  obtain ⟨p, l, e, R, s, m, args, below, meth, c, Q, D, cy, A, kc, ks⟩ := E
  obtain ⟨hx, hb, hml, hown, hts, hK, hAp, hAA, hkc, hks, hfr, hlo⟩ := X
  intro hR H locs ls hP hS hl
  exact lv_iload hx hb hdg (hl.2.2 13 _ rfl) (k hR H locs ls hP hS hl)
theorem g_istore13 (X : Cx E ad cc nL own Ts fr lo) {a0 a1 a2 a3 a4 a5 a6 a7 a8 a9 a10 a11 a12 : Option Value} {r : List (Option Value)} {u : Option Value} {x : Int32} (hdg : decode cc pc = .ok (.istore 13, 2)) (hn : 13 < nL) (hc : a12 = none ∨ ∃ v, a12 = some v ∧ v.category = 1) (k : WG E ad nL σ (pc + 2) (a0 :: a1 :: a2 :: a3 :: a4 :: a5 :: a6 :: a7 :: a8 :: a9 :: a10 :: a11 :: a12 :: some (.int x) :: r) (st)) : WG E ad nL σ (pc) (a0 :: a1 :: a2 :: a3 :: a4 :: a5 :: a6 :: a7 :: a8 :: a9 :: a10 :: a11 :: a12 :: u :: r) (.int x :: st) := by
  obtain ⟨p, l, e, R, s, m, args, below, meth, c, Q, D, cy, A, kc, ks⟩ := E
  obtain ⟨hx, hb, hml, hown, hts, hK, hAp, hAA, hkc, hks, hfr, hlo⟩ := X
  intro hR H locs ls hP hS hl
  refine lv_istore (i := 13) hx hb hdg hl.has hn rfl (fun ls2 hl2 => ?_)
  exact k hR H locs ls2 hP hS (LV.put hl2 (fun v hv => Or.inr (by
        have e9 : a12 = some v := Option.some.inj hv
        rcases hc with h9 | ⟨v9, h9, h8⟩
        · rw [h9] at e9; cases e9
        · rw [h9] at e9; cases e9; exact h8)))
theorem g_iinc13 (X : Cx E ad cc nL own Ts fr lo) {a0 a1 a2 a3 a4 a5 a6 a7 a8 a9 a10 a11 a12 : Option Value} {r : List (Option Value)} {z n : Int} (hdg : decode cc pc = .ok (.iinc 13 n, 3)) (hn : 13 < nL) (hc : a12 = none ∨ ∃ v, a12 = some v ∧ v.category = 1) (k : WG E ad nL σ (pc + 3) (a0 :: a1 :: a2 :: a3 :: a4 :: a5 :: a6 :: a7 :: a8 :: a9 :: a10 :: a11 :: a12 :: some (.int (iI (z + n))) :: r) (st)) : WG E ad nL σ (pc) (a0 :: a1 :: a2 :: a3 :: a4 :: a5 :: a6 :: a7 :: a8 :: a9 :: a10 :: a11 :: a12 :: some (.int (iI z)) :: r) (st) := by
  obtain ⟨p, l, e, R, s, m, args, below, meth, c, Q, D, cy, A, kc, ks⟩ := E
  obtain ⟨hx, hb, hml, hown, hts, hK, hAp, hAA, hkc, hks, hfr, hlo⟩ := X
  intro hR H locs ls hP hS hl
  obtain ⟨kk, hkk⟩ := List.getElem?_of_mem (lvl_mem.mpr (show (a0 :: a1 :: a2 :: a3 :: a4 :: a5 :: a6 :: a7 :: a8 :: a9 :: a10 :: a11 :: a12 :: some (.int (iI z)) :: r)[13]? = some (some (Value.int (iI z))) from rfl))
  refine lv_iinc (k := kk) (v := iI (z + n)) hx hb hdg hl.has hkk (iI_add z n) hn rfl (fun ls2 hl2 => ?_)
  exact k hR H locs ls2 hP hS (LV.put hl2 (fun v hv => Or.inr (by
        have e9 : a12 = some v := Option.some.inj hv
        rcases hc with h9 | ⟨v9, h9, h8⟩
        · rw [h9] at e9; cases e9
        · rw [h9] at e9; cases e9; exact h8)))
theorem g_iload14 (X : Cx E ad cc nL own Ts fr lo) {a0 a1 a2 a3 a4 a5 a6 a7 a8 a9 a10 a11 a12 a13 : Option Value} {r : List (Option Value)} {x : Int32} (hdg : decode cc pc = .ok (.iload 14, 2)) (k : WG E ad nL σ (pc + 2) (a0 :: a1 :: a2 :: a3 :: a4 :: a5 :: a6 :: a7 :: a8 :: a9 :: a10 :: a11 :: a12 :: a13 :: some (.int x) :: r) (.int x :: st)) : WG E ad nL σ (pc) (a0 :: a1 :: a2 :: a3 :: a4 :: a5 :: a6 :: a7 :: a8 :: a9 :: a10 :: a11 :: a12 :: a13 :: some (.int x) :: r) (st) := by
  obtain ⟨p, l, e, R, s, m, args, below, meth, c, Q, D, cy, A, kc, ks⟩ := E
  obtain ⟨hx, hb, hml, hown, hts, hK, hAp, hAA, hkc, hks, hfr, hlo⟩ := X
  intro hR H locs ls hP hS hl
  exact lv_iload hx hb hdg (hl.2.2 14 _ rfl) (k hR H locs ls hP hS hl)
theorem g_istore14 (X : Cx E ad cc nL own Ts fr lo) {a0 a1 a2 a3 a4 a5 a6 a7 a8 a9 a10 a11 a12 a13 : Option Value} {r : List (Option Value)} {u : Option Value} {x : Int32} (hdg : decode cc pc = .ok (.istore 14, 2)) (hn : 14 < nL) (hc : a13 = none ∨ ∃ v, a13 = some v ∧ v.category = 1) (k : WG E ad nL σ (pc + 2) (a0 :: a1 :: a2 :: a3 :: a4 :: a5 :: a6 :: a7 :: a8 :: a9 :: a10 :: a11 :: a12 :: a13 :: some (.int x) :: r) (st)) : WG E ad nL σ (pc) (a0 :: a1 :: a2 :: a3 :: a4 :: a5 :: a6 :: a7 :: a8 :: a9 :: a10 :: a11 :: a12 :: a13 :: u :: r) (.int x :: st) := by
  obtain ⟨p, l, e, R, s, m, args, below, meth, c, Q, D, cy, A, kc, ks⟩ := E
  obtain ⟨hx, hb, hml, hown, hts, hK, hAp, hAA, hkc, hks, hfr, hlo⟩ := X
  intro hR H locs ls hP hS hl
  refine lv_istore (i := 14) hx hb hdg hl.has hn rfl (fun ls2 hl2 => ?_)
  exact k hR H locs ls2 hP hS (LV.put hl2 (fun v hv => Or.inr (by
        have e9 : a13 = some v := Option.some.inj hv
        rcases hc with h9 | ⟨v9, h9, h8⟩
        · rw [h9] at e9; cases e9
        · rw [h9] at e9; cases e9; exact h8)))
theorem g_iinc14 (X : Cx E ad cc nL own Ts fr lo) {a0 a1 a2 a3 a4 a5 a6 a7 a8 a9 a10 a11 a12 a13 : Option Value} {r : List (Option Value)} {z n : Int} (hdg : decode cc pc = .ok (.iinc 14 n, 3)) (hn : 14 < nL) (hc : a13 = none ∨ ∃ v, a13 = some v ∧ v.category = 1) (k : WG E ad nL σ (pc + 3) (a0 :: a1 :: a2 :: a3 :: a4 :: a5 :: a6 :: a7 :: a8 :: a9 :: a10 :: a11 :: a12 :: a13 :: some (.int (iI (z + n))) :: r) (st)) : WG E ad nL σ (pc) (a0 :: a1 :: a2 :: a3 :: a4 :: a5 :: a6 :: a7 :: a8 :: a9 :: a10 :: a11 :: a12 :: a13 :: some (.int (iI z)) :: r) (st) := by
  obtain ⟨p, l, e, R, s, m, args, below, meth, c, Q, D, cy, A, kc, ks⟩ := E
  obtain ⟨hx, hb, hml, hown, hts, hK, hAp, hAA, hkc, hks, hfr, hlo⟩ := X
  intro hR H locs ls hP hS hl
  obtain ⟨kk, hkk⟩ := List.getElem?_of_mem (lvl_mem.mpr (show (a0 :: a1 :: a2 :: a3 :: a4 :: a5 :: a6 :: a7 :: a8 :: a9 :: a10 :: a11 :: a12 :: a13 :: some (.int (iI z)) :: r)[14]? = some (some (Value.int (iI z))) from rfl))
  refine lv_iinc (k := kk) (v := iI (z + n)) hx hb hdg hl.has hkk (iI_add z n) hn rfl (fun ls2 hl2 => ?_)
  exact k hR H locs ls2 hP hS (LV.put hl2 (fun v hv => Or.inr (by
        have e9 : a13 = some v := Option.some.inj hv
        rcases hc with h9 | ⟨v9, h9, h8⟩
        · rw [h9] at e9; cases e9
        · rw [h9] at e9; cases e9; exact h8)))
theorem g_iload15 (X : Cx E ad cc nL own Ts fr lo) {a0 a1 a2 a3 a4 a5 a6 a7 a8 a9 a10 a11 a12 a13 a14 : Option Value} {r : List (Option Value)} {x : Int32} (hdg : decode cc pc = .ok (.iload 15, 2)) (k : WG E ad nL σ (pc + 2) (a0 :: a1 :: a2 :: a3 :: a4 :: a5 :: a6 :: a7 :: a8 :: a9 :: a10 :: a11 :: a12 :: a13 :: a14 :: some (.int x) :: r) (.int x :: st)) : WG E ad nL σ (pc) (a0 :: a1 :: a2 :: a3 :: a4 :: a5 :: a6 :: a7 :: a8 :: a9 :: a10 :: a11 :: a12 :: a13 :: a14 :: some (.int x) :: r) (st) := by
  obtain ⟨p, l, e, R, s, m, args, below, meth, c, Q, D, cy, A, kc, ks⟩ := E
  obtain ⟨hx, hb, hml, hown, hts, hK, hAp, hAA, hkc, hks, hfr, hlo⟩ := X
  intro hR H locs ls hP hS hl
  exact lv_iload hx hb hdg (hl.2.2 15 _ rfl) (k hR H locs ls hP hS hl)
theorem g_istore15 (X : Cx E ad cc nL own Ts fr lo) {a0 a1 a2 a3 a4 a5 a6 a7 a8 a9 a10 a11 a12 a13 a14 : Option Value} {r : List (Option Value)} {u : Option Value} {x : Int32} (hdg : decode cc pc = .ok (.istore 15, 2)) (hn : 15 < nL) (hc : a14 = none ∨ ∃ v, a14 = some v ∧ v.category = 1) (k : WG E ad nL σ (pc + 2) (a0 :: a1 :: a2 :: a3 :: a4 :: a5 :: a6 :: a7 :: a8 :: a9 :: a10 :: a11 :: a12 :: a13 :: a14 :: some (.int x) :: r) (st)) : WG E ad nL σ (pc) (a0 :: a1 :: a2 :: a3 :: a4 :: a5 :: a6 :: a7 :: a8 :: a9 :: a10 :: a11 :: a12 :: a13 :: a14 :: u :: r) (.int x :: st) := by
  obtain ⟨p, l, e, R, s, m, args, below, meth, c, Q, D, cy, A, kc, ks⟩ := E
  obtain ⟨hx, hb, hml, hown, hts, hK, hAp, hAA, hkc, hks, hfr, hlo⟩ := X
  intro hR H locs ls hP hS hl
  refine lv_istore (i := 15) hx hb hdg hl.has hn rfl (fun ls2 hl2 => ?_)
  exact k hR H locs ls2 hP hS (LV.put hl2 (fun v hv => Or.inr (by
        have e9 : a14 = some v := Option.some.inj hv
        rcases hc with h9 | ⟨v9, h9, h8⟩
        · rw [h9] at e9; cases e9
        · rw [h9] at e9; cases e9; exact h8)))
theorem g_iinc15 (X : Cx E ad cc nL own Ts fr lo) {a0 a1 a2 a3 a4 a5 a6 a7 a8 a9 a10 a11 a12 a13 a14 : Option Value} {r : List (Option Value)} {z n : Int} (hdg : decode cc pc = .ok (.iinc 15 n, 3)) (hn : 15 < nL) (hc : a14 = none ∨ ∃ v, a14 = some v ∧ v.category = 1) (k : WG E ad nL σ (pc + 3) (a0 :: a1 :: a2 :: a3 :: a4 :: a5 :: a6 :: a7 :: a8 :: a9 :: a10 :: a11 :: a12 :: a13 :: a14 :: some (.int (iI (z + n))) :: r) (st)) : WG E ad nL σ (pc) (a0 :: a1 :: a2 :: a3 :: a4 :: a5 :: a6 :: a7 :: a8 :: a9 :: a10 :: a11 :: a12 :: a13 :: a14 :: some (.int (iI z)) :: r) (st) := by
  obtain ⟨p, l, e, R, s, m, args, below, meth, c, Q, D, cy, A, kc, ks⟩ := E
  obtain ⟨hx, hb, hml, hown, hts, hK, hAp, hAA, hkc, hks, hfr, hlo⟩ := X
  intro hR H locs ls hP hS hl
  obtain ⟨kk, hkk⟩ := List.getElem?_of_mem (lvl_mem.mpr (show (a0 :: a1 :: a2 :: a3 :: a4 :: a5 :: a6 :: a7 :: a8 :: a9 :: a10 :: a11 :: a12 :: a13 :: a14 :: some (.int (iI z)) :: r)[15]? = some (some (Value.int (iI z))) from rfl))
  refine lv_iinc (k := kk) (v := iI (z + n)) hx hb hdg hl.has hkk (iI_add z n) hn rfl (fun ls2 hl2 => ?_)
  exact k hR H locs ls2 hP hS (LV.put hl2 (fun v hv => Or.inr (by
        have e9 : a14 = some v := Option.some.inj hv
        rcases hc with h9 | ⟨v9, h9, h8⟩
        · rw [h9] at e9; cases e9
        · rw [h9] at e9; cases e9; exact h8)))
theorem g_iload16 (X : Cx E ad cc nL own Ts fr lo) {a0 a1 a2 a3 a4 a5 a6 a7 a8 a9 a10 a11 a12 a13 a14 a15 : Option Value} {r : List (Option Value)} {x : Int32} (hdg : decode cc pc = .ok (.iload 16, 2)) (k : WG E ad nL σ (pc + 2) (a0 :: a1 :: a2 :: a3 :: a4 :: a5 :: a6 :: a7 :: a8 :: a9 :: a10 :: a11 :: a12 :: a13 :: a14 :: a15 :: some (.int x) :: r) (.int x :: st)) : WG E ad nL σ (pc) (a0 :: a1 :: a2 :: a3 :: a4 :: a5 :: a6 :: a7 :: a8 :: a9 :: a10 :: a11 :: a12 :: a13 :: a14 :: a15 :: some (.int x) :: r) (st) := by
  obtain ⟨p, l, e, R, s, m, args, below, meth, c, Q, D, cy, A, kc, ks⟩ := E
  obtain ⟨hx, hb, hml, hown, hts, hK, hAp, hAA, hkc, hks, hfr, hlo⟩ := X
  intro hR H locs ls hP hS hl
  exact lv_iload hx hb hdg (hl.2.2 16 _ rfl) (k hR H locs ls hP hS hl)
theorem g_istore16 (X : Cx E ad cc nL own Ts fr lo) {a0 a1 a2 a3 a4 a5 a6 a7 a8 a9 a10 a11 a12 a13 a14 a15 : Option Value} {r : List (Option Value)} {u : Option Value} {x : Int32} (hdg : decode cc pc = .ok (.istore 16, 2)) (hn : 16 < nL) (hc : a15 = none ∨ ∃ v, a15 = some v ∧ v.category = 1) (k : WG E ad nL σ (pc + 2) (a0 :: a1 :: a2 :: a3 :: a4 :: a5 :: a6 :: a7 :: a8 :: a9 :: a10 :: a11 :: a12 :: a13 :: a14 :: a15 :: some (.int x) :: r) (st)) : WG E ad nL σ (pc) (a0 :: a1 :: a2 :: a3 :: a4 :: a5 :: a6 :: a7 :: a8 :: a9 :: a10 :: a11 :: a12 :: a13 :: a14 :: a15 :: u :: r) (.int x :: st) := by
  obtain ⟨p, l, e, R, s, m, args, below, meth, c, Q, D, cy, A, kc, ks⟩ := E
  obtain ⟨hx, hb, hml, hown, hts, hK, hAp, hAA, hkc, hks, hfr, hlo⟩ := X
  intro hR H locs ls hP hS hl
  refine lv_istore (i := 16) hx hb hdg hl.has hn rfl (fun ls2 hl2 => ?_)
  exact k hR H locs ls2 hP hS (LV.put hl2 (fun v hv => Or.inr (by
        have e9 : a15 = some v := Option.some.inj hv
        rcases hc with h9 | ⟨v9, h9, h8⟩
        · rw [h9] at e9; cases e9
        · rw [h9] at e9; cases e9; exact h8)))
theorem g_iinc16 (X : Cx E ad cc nL own Ts fr lo) {a0 a1 a2 a3 a4 a5 a6 a7 a8 a9 a10 a11 a12 a13 a14 a15 : Option Value} {r : List (Option Value)} {z n : Int} (hdg : decode cc pc = .ok (.iinc 16 n, 3)) (hn : 16 < nL) (hc : a15 = none ∨ ∃ v, a15 = some v ∧ v.category = 1) (k : WG E ad nL σ (pc + 3) (a0 :: a1 :: a2 :: a3 :: a4 :: a5 :: a6 :: a7 :: a8 :: a9 :: a10 :: a11 :: a12 :: a13 :: a14 :: a15 :: some (.int (iI (z + n))) :: r) (st)) : WG E ad nL σ (pc) (a0 :: a1 :: a2 :: a3 :: a4 :: a5 :: a6 :: a7 :: a8 :: a9 :: a10 :: a11 :: a12 :: a13 :: a14 :: a15 :: some (.int (iI z)) :: r) (st) := by
  obtain ⟨p, l, e, R, s, m, args, below, meth, c, Q, D, cy, A, kc, ks⟩ := E
  obtain ⟨hx, hb, hml, hown, hts, hK, hAp, hAA, hkc, hks, hfr, hlo⟩ := X
  intro hR H locs ls hP hS hl
  obtain ⟨kk, hkk⟩ := List.getElem?_of_mem (lvl_mem.mpr (show (a0 :: a1 :: a2 :: a3 :: a4 :: a5 :: a6 :: a7 :: a8 :: a9 :: a10 :: a11 :: a12 :: a13 :: a14 :: a15 :: some (.int (iI z)) :: r)[16]? = some (some (Value.int (iI z))) from rfl))
  refine lv_iinc (k := kk) (v := iI (z + n)) hx hb hdg hl.has hkk (iI_add z n) hn rfl (fun ls2 hl2 => ?_)
  exact k hR H locs ls2 hP hS (LV.put hl2 (fun v hv => Or.inr (by
        have e9 : a15 = some v := Option.some.inj hv
        rcases hc with h9 | ⟨v9, h9, h8⟩
        · rw [h9] at e9; cases e9
        · rw [h9] at e9; cases e9; exact h8)))
theorem g_aload3 (X : Cx E ad cc nL own Ts fr lo) {a0 a1 a2 : Option Value} {r : List (Option Value)} {x : Nat} (hdg : decode cc pc = .ok (.aload_n 3, 1)) (k : WG E ad nL σ (pc + 1) (a0 :: a1 :: a2 :: some (.ref x) :: r) (.ref x :: st)) : WG E ad nL σ (pc) (a0 :: a1 :: a2 :: some (.ref x) :: r) (st) := by
  obtain ⟨p, l, e, R, s, m, args, below, meth, c, Q, D, cy, A, kc, ks⟩ := E
  obtain ⟨hx, hb, hml, hown, hts, hK, hAp, hAA, hkc, hks, hfr, hlo⟩ := X
  intro hR H locs ls hP hS hl
  exact lv_aload_n hx hb hdg rfl (hl.2.2 3 _ rfl) (k hR H locs ls hP hS hl)
theorem g_aload4 (X : Cx E ad cc nL own Ts fr lo) {a0 a1 a2 a3 : Option Value} {r : List (Option Value)} {x : Nat} (hdg : decode cc pc = .ok (.aload 4, 2)) (k : WG E ad nL σ (pc + 2) (a0 :: a1 :: a2 :: a3 :: some (.ref x) :: r) (.ref x :: st)) : WG E ad nL σ (pc) (a0 :: a1 :: a2 :: a3 :: some (.ref x) :: r) (st) := by
  obtain ⟨p, l, e, R, s, m, args, below, meth, c, Q, D, cy, A, kc, ks⟩ := E
  obtain ⟨hx, hb, hml, hown, hts, hK, hAp, hAA, hkc, hks, hfr, hlo⟩ := X
  intro hR H locs ls hP hS hl
  exact lv_aload hx hb hdg (hl.2.2 4 _ rfl) (k hR H locs ls hP hS hl)
theorem g_aload11 (X : Cx E ad cc nL own Ts fr lo) {a0 a1 a2 a3 a4 a5 a6 a7 a8 a9 a10 : Option Value} {r : List (Option Value)} {x : Nat} (hdg : decode cc pc = .ok (.aload 11, 2)) (k : WG E ad nL σ (pc + 2) (a0 :: a1 :: a2 :: a3 :: a4 :: a5 :: a6 :: a7 :: a8 :: a9 :: a10 :: some (.ref x) :: r) (.ref x :: st)) : WG E ad nL σ (pc) (a0 :: a1 :: a2 :: a3 :: a4 :: a5 :: a6 :: a7 :: a8 :: a9 :: a10 :: some (.ref x) :: r) (st) := by
  obtain ⟨p, l, e, R, s, m, args, below, meth, c, Q, D, cy, A, kc, ks⟩ := E
  obtain ⟨hx, hb, hml, hown, hts, hK, hAp, hAA, hkc, hks, hfr, hlo⟩ := X
  intro hR H locs ls hP hS hl
  exact lv_aload hx hb hdg (hl.2.2 11 _ rfl) (k hR H locs ls hP hS hl)
theorem g_astore11 (X : Cx E ad cc nL own Ts fr lo) {a0 a1 a2 a3 a4 a5 a6 a7 a8 a9 a10 : Option Value} {r : List (Option Value)} {u : Option Value} {x : Nat} (hdg : decode cc pc = .ok (.astore 11, 2)) (hn : 11 < nL) (hc : a10 = none ∨ ∃ v, a10 = some v ∧ v.category = 1) (k : WG E ad nL σ (pc + 2) (a0 :: a1 :: a2 :: a3 :: a4 :: a5 :: a6 :: a7 :: a8 :: a9 :: a10 :: some (.ref x) :: r) (st)) : WG E ad nL σ (pc) (a0 :: a1 :: a2 :: a3 :: a4 :: a5 :: a6 :: a7 :: a8 :: a9 :: a10 :: u :: r) (.ref x :: st) := by
  obtain ⟨p, l, e, R, s, m, args, below, meth, c, Q, D, cy, A, kc, ks⟩ := E
  obtain ⟨hx, hb, hml, hown, hts, hK, hAp, hAA, hkc, hks, hfr, hlo⟩ := X
  intro hR H locs ls hP hS hl
  refine lv_astore (i := 11) hx hb hdg hl.has hn rfl (fun ls2 hl2 => ?_)
  exact k hR H locs ls2 hP hS (LV.put hl2 (fun v hv => Or.inr (by
        have e9 : a10 = some v := Option.some.inj hv
        rcases hc with h9 | ⟨v9, h9, h8⟩
        · rw [h9] at e9; cases e9
        · rw [h9] at e9; cases e9; exact h8)))
theorem g_lload9 (X : Cx E ad cc nL own Ts fr lo) {a0 a1 a2 a3 a4 a5 a6 a7 a8 : Option Value} {r : List (Option Value)} {x : Int64} (hdg : decode cc pc = .ok (.lload 9, 2)) (k : WG E ad nL σ (pc + 2) (a0 :: a1 :: a2 :: a3 :: a4 :: a5 :: a6 :: a7 :: a8 :: some (.long x) :: r) (.long x :: st)) : WG E ad nL σ (pc) (a0 :: a1 :: a2 :: a3 :: a4 :: a5 :: a6 :: a7 :: a8 :: some (.long x) :: r) (st) := by
  obtain ⟨p, l, e, R, s, m, args, below, meth, c, Q, D, cy, A, kc, ks⟩ := E
  obtain ⟨hx, hb, hml, hown, hts, hK, hAp, hAA, hkc, hks, hfr, hlo⟩ := X
  intro hR H locs ls hP hS hl
  exact lv_lload hx hb hdg (hl.2.2 9 _ rfl) (k hR H locs ls hP hS hl)
theorem g_lstore9 (X : Cx E ad cc nL own Ts fr lo) {a0 a1 a2 a3 a4 a5 a6 a7 a8 : Option Value} {r : List (Option Value)} {u w : Option Value} {x : Int64} (hdg : decode cc pc = .ok (.lstore 9, 2)) (hn : 10 < nL) (hc : a8 = none ∨ ∃ v, a8 = some v ∧ v.category = 1) (k : WG E ad nL σ (pc + 2) (a0 :: a1 :: a2 :: a3 :: a4 :: a5 :: a6 :: a7 :: a8 :: some (.long x) :: none :: r) (st)) : WG E ad nL σ (pc) (a0 :: a1 :: a2 :: a3 :: a4 :: a5 :: a6 :: a7 :: a8 :: u :: w :: r) (.long x :: st) := by
  obtain ⟨p, l, e, R, s, m, args, below, meth, c, Q, D, cy, A, kc, ks⟩ := E
  obtain ⟨hx, hb, hml, hown, hts, hK, hAp, hAA, hkc, hks, hfr, hlo⟩ := X
  intro hR H locs ls hP hS hl
  refine lv_lstore (i := 9) hx hb hdg hl.has (by omega) rfl (fun ls2 hl2 => ?_)
  exact k hR H locs ls2 hP hS (LV.put2 hl2 rfl (fun v hv => Or.inr (by
        have e9 : a8 = some v := Option.some.inj hv
        rcases hc with h9 | ⟨v9, h9, h8⟩
        · rw [h9] at e9; cases e9
        · rw [h9] at e9; cases e9; exact h8)))
def IAN (ad : Int → Nat) (q i : Int) : Prop := (0 ≤ q ∧ q < nC ad) ∧ 0 ≤ i ∧ i < alen q
theorem g_ialdN (X : Cx E ad cc nL own Ts fr lo) {q i : Int} (hi : IAN ad q i) (hdg : decode cc pc = .ok (.iaload, 1)) (kk : WG E ad nL σ (pc + 1) lv (.int (iI (σ q i)) :: st)) : WG E ad nL σ pc lv (.int (iI i) :: .ref (ad q) :: st) := by
  obtain ⟨p, l, e, R, s, m, args, below, meth, c, Q, D, cy, A, kc, ks⟩ := E
  obtain ⟨hx, hb, hml, hown, hts, hK, hAp, hAA, hkc, hks, hfr, hlo⟩ := X
  intro hR H locs ls hP hS hl
  obtain ⟨hq, h0, h1⟩ := hi
  have h8 := alen_le q
  have hir : InR i := ⟨by omega, by omega⟩
  have h2 := gw_atN (ad := ad) (cy := cy) (σ := σ) hq
  rw [cel_I (by omega)] at h2
  refine va_iald hx hb hK hP q.toNat 0 h2 rfl (iI_vp h0 (by omega) hir) hdg ?_
  rw [iI_clamp h0 hir, Int.toNat_of_nonneg h0]
  exact kk hR H locs ls hP hS hl
theorem g_iastN (X : Cx E ad cc nL own Ts fr lo) {q i z : Int} (hi : IAN ad q i) (hz : InR z) (hdg : decode cc pc = .ok (.iastore, 1)) (kk : WG E ad nL (up σ q i z) (pc + 1) lv st) : WG E ad nL σ pc lv (.int (iI z) :: .int (iI i) :: .ref (ad q) :: st) := by
  obtain ⟨p, l, e, R, s, m, args, below, meth, c, Q, D, cy, A, kc, ks⟩ := E
  obtain ⟨hx, hb, hml, hown, hts, hK, hAp, hAA, hkc, hks, hfr, hlo⟩ := X
  intro hR H locs ls hP hS hl
  obtain ⟨hq, h0, h1⟩ := hi
  have h8 := alen_le q
  have hir : InR i := ⟨by omega, by omega⟩
  have h2 := gw_atN (ad := ad) (cy := cy) (σ := σ) hq
  rw [cel_I (by omega)] at h2
  refine va_iast hx hb hK hP (gw_D hAp hAA) hS q.toNat 0 h2 rfl (iI_vp h0 (by omega) hir) hdg (fun H1 locs1 hP1 _ hS1 => ?_)
  have e : (Sum.inl (cy.1, (alen q).toNat, Sum.inl (upd (fun k : Nat => iI (σ q k)) (iI i).toNatClampNeg (iI z))) : va_E) = cel ad cy (up σ q i z) q := by
    rw [cel_I (by omega), iI_clamp h0 hir]
    refine congrArg (fun f => (Sum.inl (cy.1, (alen q).toNat, Sum.inl f) : va_E)) (funext fun j => ?_)
    unfold upd up
    by_cases hj : j = i.toNat
    · rw [if_pos hj, if_pos ⟨rfl, by omega⟩]
    · rw [if_neg hj, if_neg (fun e => hj (by omega))]
  rw [e, gw_setN (σ' := up σ q i z) hq (fun q' k9 h9 => by unfold up; rw [if_neg (fun e => h9 e.1)])] at hP1
  exact kk (rg_up hR hz) H1 locs1 ls hP1 hS1 hl
theorem ia_82 {i : Int} (ha : ad (-1) ≠ 0) (hi : 0 ≤ i ∧ i < 7) : IAN ad 82 i := by
  refine ⟨⟨by omega, ?_⟩, hi.1, by rw [show alen 82 = 7 from rfl]; exact hi.2⟩
  unfold nC
  rw [if_neg ha]
  omega
theorem g_LI2 (X : Cx E ad cc nL own Ts fr lo) {y : MethodName} {ws ws' : List Cond} {fr' lo' maxL idx : Nat} {bytes : ByteArray} {ret : Option FieldType} {b1 b2 : Value} {P : Int → St → Prop} (hM : MGE E y ws fr' lo' ad σ [b1, b2] (PI P)) (hG : GoodIn Ts (va_wsS own idx y ws)) (hw : ws = Cond.code y bytes maxL ret :: ws') (hd : y.cls ≠ "java/lang/invoke/MethodHandle" ∧ y.cls ≠ "java/lang/invoke/VarHandle" ∧ (parseMethodDescriptor y.desc).map (fun d => d.parameters.length) = some 2) (hR : fr' + 1 ≤ fr ∧ 8 + (maxL + 11) + lo' ≤ lo) (hcat : (st.map fun v => v.category).sum ≤ 8) (hdg : decode cc pc = .ok (.invokestatic idx, 3)) (kk : ∀ (z : Int) (σ' : St), InR z → P z σ' → WG E ad nL σ' (pc + 3) lv (.int (iI z) :: st)) : WG E ad nL σ pc lv (b2 :: b1 :: st) := by
  obtain ⟨p, l, e, R, s, m, args, below, meth, c, Q, D, cy, A, kc, ks⟩ := E
  obtain ⟨hx, hb, hml, hown, hts, hK, hAp, hAA, hkc, hks, hfr, hlo⟩ := X
  intro hRG H locs ls hP hS hl
  have hrun := va_runS (p := p) (e := e) (R := R) (m := m) (below := below) (meth := meth) (locs := locs) (cells := kc) (slots := ks) (g := F0 m pc ls (b2 :: b1 :: st)) (As := [b1, b2]) (rest := st) ⟨hx, hb, hml, hown, hts⟩ hM (va_cwS 2 hts hG hw rfl rfl hd ⟨Nat.le_trans hR.1 hfr, Nat.le_trans hR.2 hlo⟩) ⟨fun a U g mk q => ⟨q.1, q.2.calling⟩, fun U hU hW => ⟨rfl, by rw [hU]; exact hP, va_K.moved hW.alike hK, hAp, hRG⟩⟩ rfl rfl hl.1 rfl (lv_room hcat) hdg ⟨hkc, hks⟩
  exact g_after hAA hrun hS hl (k_I (k := fun r σ' => WG _ ad nL σ' (pc + 3) lv ((rO r).toList ++ st)) kk)
theorem g_LI5 (X : Cx E ad cc nL own Ts fr lo) {y : MethodName} {ws ws' : List Cond} {fr' lo' maxL idx : Nat} {bytes : ByteArray} {ret : Option FieldType} {b1 b2 b3 b4 b5 : Value} {P : Int → St → Prop} (hM : MGE E y ws fr' lo' ad σ [b1, b2, b3, b4, b5] (PI P)) (hG : GoodIn Ts (va_wsS own idx y ws)) (hw : ws = Cond.code y bytes maxL ret :: ws') (hd : y.cls ≠ "java/lang/invoke/MethodHandle" ∧ y.cls ≠ "java/lang/invoke/VarHandle" ∧ (parseMethodDescriptor y.desc).map (fun d => d.parameters.length) = some 5) (hR : fr' + 1 ≤ fr ∧ 8 + (maxL + 11) + lo' ≤ lo) (hcat : (st.map fun v => v.category).sum ≤ 8) (hdg : decode cc pc = .ok (.invokestatic idx, 3)) (kk : ∀ (z : Int) (σ' : St), InR z → P z σ' → WG E ad nL σ' (pc + 3) lv (.int (iI z) :: st)) : WG E ad nL σ pc lv (b5 :: b4 :: b3 :: b2 :: b1 :: st) := by
  obtain ⟨p, l, e, R, s, m, args, below, meth, c, Q, D, cy, A, kc, ks⟩ := E
  obtain ⟨hx, hb, hml, hown, hts, hK, hAp, hAA, hkc, hks, hfr, hlo⟩ := X
  intro hRG H locs ls hP hS hl
  have hrun := va_runS (p := p) (e := e) (R := R) (m := m) (below := below) (meth := meth) (locs := locs) (cells := kc) (slots := ks) (g := F0 m pc ls (b5 :: b4 :: b3 :: b2 :: b1 :: st)) (As := [b1, b2, b3, b4, b5]) (rest := st) ⟨hx, hb, hml, hown, hts⟩ hM (va_cwS 5 hts hG hw rfl rfl hd ⟨Nat.le_trans hR.1 hfr, Nat.le_trans hR.2 hlo⟩) ⟨fun a U g mk q => ⟨q.1, q.2.calling⟩, fun U hU hW => ⟨rfl, by rw [hU]; exact hP, va_K.moved hW.alike hK, hAp, hRG⟩⟩ rfl rfl hl.1 rfl (lv_room hcat) hdg ⟨hkc, hks⟩
  exact g_after hAA hrun hS hl (k_I (k := fun r σ' => WG _ ad nL σ' (pc + 3) lv ((rO r).toList ++ st)) kk)
theorem g_LI6 (X : Cx E ad cc nL own Ts fr lo) {y : MethodName} {ws ws' : List Cond} {fr' lo' maxL idx : Nat} {bytes : ByteArray} {ret : Option FieldType} {b1 b2 b3 b4 b5 b6 : Value} {P : Int → St → Prop} (hM : MGE E y ws fr' lo' ad σ [b1, b2, b3, b4, b5, b6] (PI P)) (hG : GoodIn Ts (va_wsS own idx y ws)) (hw : ws = Cond.code y bytes maxL ret :: ws') (hd : y.cls ≠ "java/lang/invoke/MethodHandle" ∧ y.cls ≠ "java/lang/invoke/VarHandle" ∧ (parseMethodDescriptor y.desc).map (fun d => d.parameters.length) = some 6) (hR : fr' + 1 ≤ fr ∧ 8 + (maxL + 11) + lo' ≤ lo) (hcat : (st.map fun v => v.category).sum ≤ 8) (hdg : decode cc pc = .ok (.invokestatic idx, 3)) (kk : ∀ (z : Int) (σ' : St), InR z → P z σ' → WG E ad nL σ' (pc + 3) lv (.int (iI z) :: st)) : WG E ad nL σ pc lv (b6 :: b5 :: b4 :: b3 :: b2 :: b1 :: st) := by
  obtain ⟨p, l, e, R, s, m, args, below, meth, c, Q, D, cy, A, kc, ks⟩ := E
  obtain ⟨hx, hb, hml, hown, hts, hK, hAp, hAA, hkc, hks, hfr, hlo⟩ := X
  intro hRG H locs ls hP hS hl
  have hrun := va_runS (p := p) (e := e) (R := R) (m := m) (below := below) (meth := meth) (locs := locs) (cells := kc) (slots := ks) (g := F0 m pc ls (b6 :: b5 :: b4 :: b3 :: b2 :: b1 :: st)) (As := [b1, b2, b3, b4, b5, b6]) (rest := st) ⟨hx, hb, hml, hown, hts⟩ hM (va_cwS 6 hts hG hw rfl rfl hd ⟨Nat.le_trans hR.1 hfr, Nat.le_trans hR.2 hlo⟩) ⟨fun a U g mk q => ⟨q.1, q.2.calling⟩, fun U hU hW => ⟨rfl, by rw [hU]; exact hP, va_K.moved hW.alike hK, hAp, hRG⟩⟩ rfl rfl hl.1 rfl (lv_room hcat) hdg ⟨hkc, hks⟩
  exact g_after hAA hrun hS hl (k_I (k := fun r σ' => WG _ ad nL σ' (pc + 3) lv ((rO r).toList ++ st)) kk)
end LAWRULES
