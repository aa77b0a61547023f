/-! MY RULES: an instruction a row, over the layer -/
section RULES
variable {E : EV} {ad : Int → Nat} {cc : ByteArray} {nL : Nat} {own : String} {Ts : List Cond} {fr lo : Nat} {σ : St} {pc : Nat} {lv : List (Option Value)} {st : List Value}
theorem g_rg (k : RG σ → WG E ad nL σ pc lv st) : WG E ad nL σ pc lv st := by
  obtain ⟨p, l, e, R, s, m, args, below, meth, c, Q, D, cy, A, kc, ks⟩ := E
  intro hR
  exact k hR hR
theorem g_lv {lv' : List (Option Value)} (hs : ∀ (i : Nat) (v : Value), lv'[i]? = some (some v) → lv[i]? = some (some v)) (k : WG E ad nL σ pc lv' st) : WG E ad nL σ pc lv st := by
  obtain ⟨p, l, e, R, s, m, args, below, meth, c, Q, D, cy, A, kc, ks⟩ := E
  intro hR H locs ls hP hS hl
  exact k hR H locs ls hP hS (hl.sub hs)
theorem g_iconst (X : Cx E ad cc nL own Ts fr lo) {n : Int} (hdg : decode cc pc = .ok (.iconst n, 1)) (k : WG E ad nL σ (pc + 1) lv (.int (iI n) :: st)) : WG E ad nL σ (pc) lv (st) := by
  obtain ⟨p, l, e, R, s, m, args, below, meth, c, Q, D, cy, A, kc, ks⟩ := E
  obtain ⟨hx, hb, hml, hown, hts, hK, hAp, hAA, hkc, hks, hfr, hlo⟩ := X
  intro hR H locs ls hP hS hl
  exact lv_iconst hx hb hdg rfl (k hR H locs ls hP hS hl)
theorem g_bipush (X : Cx E ad cc nL own Ts fr lo) {n : Int} (hdg : decode cc pc = .ok (.bipush n, 2)) (hv : (Int8.ofInt n).toInt32 = iI n) (k : WG E ad nL σ (pc + 2) lv (.int (iI n) :: st)) : WG E ad nL σ (pc) lv (st) := by
  obtain ⟨p, l, e, R, s, m, args, below, meth, c, Q, D, cy, A, kc, ks⟩ := E
  obtain ⟨hx, hb, hml, hown, hts, hK, hAp, hAA, hkc, hks, hfr, hlo⟩ := X
  intro hR H locs ls hP hS hl
  exact lv_bipush hx hb hdg hv (k hR H locs ls hP hS hl)
theorem g_sipush (X : Cx E ad cc nL own Ts fr lo) {n : Int} (hdg : decode cc pc = .ok (.sipush n, 3)) (hv : (Int16.ofInt n).toInt32 = iI n) (k : WG E ad nL σ (pc + 3) lv (.int (iI n) :: st)) : WG E ad nL σ (pc) lv (st) := by
  obtain ⟨p, l, e, R, s, m, args, below, meth, c, Q, D, cy, A, kc, ks⟩ := E
  obtain ⟨hx, hb, hml, hown, hts, hK, hAp, hAA, hkc, hks, hfr, hlo⟩ := X
  intro hR H locs ls hP hS hl
  exact lv_sipush hx hb hdg hv (k hR H locs ls hP hS hl)
theorem g_ldc (X : Cx E ad cc nL own Ts fr lo) {v : Int32} {z : Int} {idx : Nat} (hw : Cond.constant own idx v ∈ Ts) (hv : v = iI z) (hdg : decode cc pc = .ok (.ldc idx, 2)) (k : WG E ad nL σ (pc + 2) lv (.int (iI z) :: st)) : WG E ad nL σ (pc) lv (st) := by
  obtain ⟨p, l, e, R, s, m, args, below, meth, c, Q, D, cy, A, kc, ks⟩ := E
  obtain ⟨hx, hb, hml, hown, hts, hK, hAp, hAA, hkc, hks, hfr, hlo⟩ := X
  intro hR H locs ls hP hS hl
  subst hv
  exact lv_ldc hx hb hown (hts _ hw) hdg (k hR H locs ls hP hS hl)
theorem g_ldc2 (X : Cx E ad cc nL own Ts fr lo) {v : Int64} {idx : Nat} (hw : Cond.constantLong own idx v ∈ Ts) (hdg : decode cc pc = .ok (.ldc2_w idx, 3)) (k : WG E ad nL σ (pc + 3) lv (.long v :: st)) : WG E ad nL σ (pc) lv (st) := by
  obtain ⟨p, l, e, R, s, m, args, below, meth, c, Q, D, cy, A, kc, ks⟩ := E
  obtain ⟨hx, hb, hml, hown, hts, hK, hAp, hAA, hkc, hks, hfr, hlo⟩ := X
  intro hR H locs ls hP hS hl
  exact lv_ldc2 hx hb hown (hts _ hw) hdg (k hR H locs ls hP hS hl)
theorem g_iload0 (X : Cx E ad cc nL own Ts fr lo) {r : List (Option Value)} {x : Int32} (hdg : decode cc pc = .ok (.iload_n 0, 1)) (k : WG E ad nL σ (pc + 1) (some (.int x) :: r) (.int x :: st)) : WG E ad nL σ (pc) (some (.int x) :: r) (st) := by
  obtain ⟨p, l, e, R, s, m, args, below, meth, c, Q, D, cy, A, kc, ks⟩ := E
  obtain ⟨hx, hb, hml, hown, hts, hK, hAp, hAA, hkc, hks, hfr, hlo⟩ := X
  intro hR H locs ls hP hS hl
  exact lv_iload_n hx hb hdg rfl (hl.2.2 0 _ rfl) (k hR H locs ls hP hS hl)
theorem g_aload0 (X : Cx E ad cc nL own Ts fr lo) {r : List (Option Value)} {x : Nat} (hdg : decode cc pc = .ok (.aload_n 0, 1)) (k : WG E ad nL σ (pc + 1) (some (.ref x) :: r) (.ref x :: st)) : WG E ad nL σ (pc) (some (.ref x) :: r) (st) := by
  obtain ⟨p, l, e, R, s, m, args, below, meth, c, Q, D, cy, A, kc, ks⟩ := E
  obtain ⟨hx, hb, hml, hown, hts, hK, hAp, hAA, hkc, hks, hfr, hlo⟩ := X
  intro hR H locs ls hP hS hl
  exact lv_aload_n hx hb hdg rfl (hl.2.2 0 _ rfl) (k hR H locs ls hP hS hl)
theorem g_istore0 (X : Cx E ad cc nL own Ts fr lo) {r : List (Option Value)} {u : Option Value} {x : Int32} (hdg : decode cc pc = .ok (.istore_n 0, 1)) (hn : 0 < nL) (k : WG E ad nL σ (pc + 1) (some (.int x) :: r) (st)) : WG E ad nL σ (pc) (u :: r) (.int x :: st) := by
  obtain ⟨p, l, e, R, s, m, args, below, meth, c, Q, D, cy, A, kc, ks⟩ := E
  obtain ⟨hx, hb, hml, hown, hts, hK, hAp, hAA, hkc, hks, hfr, hlo⟩ := X
  intro hR H locs ls hP hS hl
  refine lv_istore_n (i := 0) hx hb hdg rfl hl.has hn rfl (fun ls2 hl2 => ?_)
  exact k hR H locs ls2 hP hS (LV.put hl2 (fun v hv => Or.inl rfl))
theorem g_astore0 (X : Cx E ad cc nL own Ts fr lo) {r : List (Option Value)} {u : Option Value} {x : Nat} (hdg : decode cc pc = .ok (.astore_n 0, 1)) (hn : 0 < nL) (k : WG E ad nL σ (pc + 1) (some (.ref x) :: r) (st)) : WG E ad nL σ (pc) (u :: r) (.ref x :: st) := by
  obtain ⟨p, l, e, R, s, m, args, below, meth, c, Q, D, cy, A, kc, ks⟩ := E
  obtain ⟨hx, hb, hml, hown, hts, hK, hAp, hAA, hkc, hks, hfr, hlo⟩ := X
  intro hR H locs ls hP hS hl
  refine lv_astore_n (i := 0) hx hb hdg rfl hl.has hn rfl (fun ls2 hl2 => ?_)
  exact k hR H locs ls2 hP hS (LV.put hl2 (fun v hv => Or.inl rfl))
theorem g_iinc0 (X : Cx E ad cc nL own Ts fr lo) {r : List (Option Value)} {z n : Int} (hdg : decode cc pc = .ok (.iinc 0 n, 3)) (hn : 0 < nL) (k : WG E ad nL σ (pc + 3) (some (.int (iI (z + n))) :: r) (st)) : WG E ad nL σ (pc) (some (.int (iI z)) :: r) (st) := by
  obtain ⟨p, l, e, R, s, m, args, below, meth, c, Q, D, cy, A, kc, ks⟩ := E
  obtain ⟨hx, hb, hml, hown, hts, hK, hAp, hAA, hkc, hks, hfr, hlo⟩ := X
  intro hR H locs ls hP hS hl
  obtain ⟨kk, hkk⟩ := List.getElem?_of_mem (lvl_mem.mpr (show (some (.int (iI z)) :: r)[0]? = some (some (Value.int (iI z))) from rfl))
  refine lv_iinc (k := kk) (v := iI (z + n)) hx hb hdg hl.has hkk (iI_add z n) hn rfl (fun ls2 hl2 => ?_)
  exact k hR H locs ls2 hP hS (LV.put hl2 (fun v hv => Or.inl rfl))
theorem g_iload1 (X : Cx E ad cc nL own Ts fr lo) {a : Option Value} {r : List (Option Value)} {x : Int32} (hdg : decode cc pc = .ok (.iload_n 1, 1)) (k : WG E ad nL σ (pc + 1) (a :: some (.int x) :: r) (.int x :: st)) : WG E ad nL σ (pc) (a :: some (.int x) :: r) (st) := by
  obtain ⟨p, l, e, R, s, m, args, below, meth, c, Q, D, cy, A, kc, ks⟩ := E
  obtain ⟨hx, hb, hml, hown, hts, hK, hAp, hAA, hkc, hks, hfr, hlo⟩ := X
  intro hR H locs ls hP hS hl
  exact lv_iload_n hx hb hdg rfl (hl.2.2 1 _ rfl) (k hR H locs ls hP hS hl)
theorem g_aload1 (X : Cx E ad cc nL own Ts fr lo) {a : Option Value} {r : List (Option Value)} {x : Nat} (hdg : decode cc pc = .ok (.aload_n 1, 1)) (k : WG E ad nL σ (pc + 1) (a :: some (.ref x) :: r) (.ref x :: st)) : WG E ad nL σ (pc) (a :: some (.ref x) :: r) (st) := by
  obtain ⟨p, l, e, R, s, m, args, below, meth, c, Q, D, cy, A, kc, ks⟩ := E
  obtain ⟨hx, hb, hml, hown, hts, hK, hAp, hAA, hkc, hks, hfr, hlo⟩ := X
  intro hR H locs ls hP hS hl
  exact lv_aload_n hx hb hdg rfl (hl.2.2 1 _ rfl) (k hR H locs ls hP hS hl)
theorem g_istore1 (X : Cx E ad cc nL own Ts fr lo) {a : Option Value} {r : List (Option Value)} {u : Option Value} {x : Int32} (hdg : decode cc pc = .ok (.istore_n 1, 1)) (hn : 1 < nL) (hc : a = none ∨ ∃ v, a = some v ∧ v.category = 1) (k : WG E ad nL σ (pc + 1) (a :: some (.int x) :: r) (st)) : WG E ad nL σ (pc) (a :: u :: r) (.int x :: st) := by
  obtain ⟨p, l, e, R, s, m, args, below, meth, c, Q, D, cy, A, kc, ks⟩ := E
  obtain ⟨hx, hb, hml, hown, hts, hK, hAp, hAA, hkc, hks, hfr, hlo⟩ := X
  intro hR H locs ls hP hS hl
  refine lv_istore_n (i := 1) hx hb hdg rfl hl.has hn rfl (fun ls2 hl2 => ?_)
  exact k hR H locs ls2 hP hS (LV.put hl2 (fun v hv => Or.inr (by
        have e9 : a = some v := Option.some.inj hv
        rcases hc with h9 | ⟨v9, h9, h8⟩
        · rw [h9] at e9; cases e9
        · rw [h9] at e9; cases e9; exact h8)))
theorem g_astore1 (X : Cx E ad cc nL own Ts fr lo) {a : Option Value} {r : List (Option Value)} {u : Option Value} {x : Nat} (hdg : decode cc pc = .ok (.astore_n 1, 1)) (hn : 1 < nL) (hc : a = none ∨ ∃ v, a = some v ∧ v.category = 1) (k : WG E ad nL σ (pc + 1) (a :: some (.ref x) :: r) (st)) : WG E ad nL σ (pc) (a :: u :: r) (.ref x :: st) := by
  obtain ⟨p, l, e, R, s, m, args, below, meth, c, Q, D, cy, A, kc, ks⟩ := E
  obtain ⟨hx, hb, hml, hown, hts, hK, hAp, hAA, hkc, hks, hfr, hlo⟩ := X
  intro hR H locs ls hP hS hl
  refine lv_astore_n (i := 1) hx hb hdg rfl hl.has hn rfl (fun ls2 hl2 => ?_)
  exact k hR H locs ls2 hP hS (LV.put hl2 (fun v hv => Or.inr (by
        have e9 : a = some v := Option.some.inj hv
        rcases hc with h9 | ⟨v9, h9, h8⟩
        · rw [h9] at e9; cases e9
        · rw [h9] at e9; cases e9; exact h8)))
theorem g_iinc1 (X : Cx E ad cc nL own Ts fr lo) {a : Option Value} {r : List (Option Value)} {z n : Int} (hdg : decode cc pc = .ok (.iinc 1 n, 3)) (hn : 1 < nL) (hc : a = none ∨ ∃ v, a = some v ∧ v.category = 1) (k : WG E ad nL σ (pc + 3) (a :: some (.int (iI (z + n))) :: r) (st)) : WG E ad nL σ (pc) (a :: some (.int (iI z)) :: r) (st) := by
  obtain ⟨p, l, e, R, s, m, args, below, meth, c, Q, D, cy, A, kc, ks⟩ := E
  obtain ⟨hx, hb, hml, hown, hts, hK, hAp, hAA, hkc, hks, hfr, hlo⟩ := X
  intro hR H locs ls hP hS hl
  obtain ⟨kk, hkk⟩ := List.getElem?_of_mem (lvl_mem.mpr (show (a :: some (.int (iI z)) :: r)[1]? = some (some (Value.int (iI z))) from rfl))
  refine lv_iinc (k := kk) (v := iI (z + n)) hx hb hdg hl.has hkk (iI_add z n) hn rfl (fun ls2 hl2 => ?_)
  exact k hR H locs ls2 hP hS (LV.put hl2 (fun v hv => Or.inr (by
        have e9 : a = some v := Option.some.inj hv
        rcases hc with h9 | ⟨v9, h9, h8⟩
        · rw [h9] at e9; cases e9
        · rw [h9] at e9; cases e9; exact h8)))
theorem g_iload2 (X : Cx E ad cc nL own Ts fr lo) {a b : Option Value} {r : List (Option Value)} {x : Int32} (hdg : decode cc pc = .ok (.iload_n 2, 1)) (k : WG E ad nL σ (pc + 1) (a :: b :: some (.int x) :: r) (.int x :: st)) : WG E ad nL σ (pc) (a :: b :: some (.int x) :: r) (st) := by
  obtain ⟨p, l, e, R, s, m, args, below, meth, c, Q, D, cy, A, kc, ks⟩ := E
  obtain ⟨hx, hb, hml, hown, hts, hK, hAp, hAA, hkc, hks, hfr, hlo⟩ := X
  intro hR H locs ls hP hS hl
  exact lv_iload_n hx hb hdg rfl (hl.2.2 2 _ rfl) (k hR H locs ls hP hS hl)
theorem g_aload2 (X : Cx E ad cc nL own Ts fr lo) {a b : Option Value} {r : List (Option Value)} {x : Nat} (hdg : decode cc pc = .ok (.aload_n 2, 1)) (k : WG E ad nL σ (pc + 1) (a :: b :: some (.ref x) :: r) (.ref x :: st)) : WG E ad nL σ (pc) (a :: b :: some (.ref x) :: r) (st) := by
  obtain ⟨p, l, e, R, s, m, args, below, meth, c, Q, D, cy, A, kc, ks⟩ := E
  obtain ⟨hx, hb, hml, hown, hts, hK, hAp, hAA, hkc, hks, hfr, hlo⟩ := X
  intro hR H locs ls hP hS hl
  exact lv_aload_n hx hb hdg rfl (hl.2.2 2 _ rfl) (k hR H locs ls hP hS hl)
theorem g_istore2 (X : Cx E ad cc nL own Ts fr lo) {a b : Option Value} {r : List (Option Value)} {u : Option Value} {x : Int32} (hdg : decode cc pc = .ok (.istore_n 2, 1)) (hn : 2 < nL) (hc : b = none ∨ ∃ v, b = some v ∧ v.category = 1) (k : WG E ad nL σ (pc + 1) (a :: b :: some (.int x) :: r) (st)) : WG E ad nL σ (pc) (a :: b :: u :: r) (.int x :: st) := by
  obtain ⟨p, l, e, R, s, m, args, below, meth, c, Q, D, cy, A, kc, ks⟩ := E
  obtain ⟨hx, hb, hml, hown, hts, hK, hAp, hAA, hkc, hks, hfr, hlo⟩ := X
  intro hR H locs ls hP hS hl
  refine lv_istore_n (i := 2) hx hb hdg rfl hl.has hn rfl (fun ls2 hl2 => ?_)
  exact k hR H locs ls2 hP hS (LV.put hl2 (fun v hv => Or.inr (by
        have e9 : b = some v := Option.some.inj hv
        rcases hc with h9 | ⟨v9, h9, h8⟩
        · rw [h9] at e9; cases e9
        · rw [h9] at e9; cases e9; exact h8)))
theorem g_astore2 (X : Cx E ad cc nL own Ts fr lo) {a b : Option Value} {r : List (Option Value)} {u : Option Value} {x : Nat} (hdg : decode cc pc = .ok (.astore_n 2, 1)) (hn : 2 < nL) (hc : b = none ∨ ∃ v, b = some v ∧ v.category = 1) (k : WG E ad nL σ (pc + 1) (a :: b :: some (.ref x) :: r) (st)) : WG E ad nL σ (pc) (a :: b :: u :: r) (.ref x :: st) := by
  obtain ⟨p, l, e, R, s, m, args, below, meth, c, Q, D, cy, A, kc, ks⟩ := E
  obtain ⟨hx, hb, hml, hown, hts, hK, hAp, hAA, hkc, hks, hfr, hlo⟩ := X
  intro hR H locs ls hP hS hl
  refine lv_astore_n (i := 2) hx hb hdg rfl hl.has hn rfl (fun ls2 hl2 => ?_)
  exact k hR H locs ls2 hP hS (LV.put hl2 (fun v hv => Or.inr (by
        have e9 : b = some v := Option.some.inj hv
        rcases hc with h9 | ⟨v9, h9, h8⟩
        · rw [h9] at e9; cases e9
        · rw [h9] at e9; cases e9; exact h8)))
theorem g_iinc2 (X : Cx E ad cc nL own Ts fr lo) {a b : Option Value} {r : List (Option Value)} {z n : Int} (hdg : decode cc pc = .ok (.iinc 2 n, 3)) (hn : 2 < nL) (hc : b = none ∨ ∃ v, b = some v ∧ v.category = 1) (k : WG E ad nL σ (pc + 3) (a :: b :: some (.int (iI (z + n))) :: r) (st)) : WG E ad nL σ (pc) (a :: b :: some (.int (iI z)) :: r) (st) := by
  obtain ⟨p, l, e, R, s, m, args, below, meth, c, Q, D, cy, A, kc, ks⟩ := E
  obtain ⟨hx, hb, hml, hown, hts, hK, hAp, hAA, hkc, hks, hfr, hlo⟩ := X
  intro hR H locs ls hP hS hl
  obtain ⟨kk, hkk⟩ := List.getElem?_of_mem (lvl_mem.mpr (show (a :: b :: some (.int (iI z)) :: r)[2]? = some (some (Value.int (iI z))) from rfl))
  refine lv_iinc (k := kk) (v := iI (z + n)) hx hb hdg hl.has hkk (iI_add z n) hn rfl (fun ls2 hl2 => ?_)
  exact k hR H locs ls2 hP hS (LV.put hl2 (fun v hv => Or.inr (by
        have e9 : b = some v := Option.some.inj hv
        rcases hc with h9 | ⟨v9, h9, h8⟩
        · rw [h9] at e9; cases e9
        · rw [h9] at e9; cases e9; exact h8)))
theorem g_iload3 (X : Cx E ad cc nL own Ts fr lo) {a b d : Option Value} {r : List (Option Value)} {x : Int32} (hdg : decode cc pc = .ok (.iload_n 3, 1)) (k : WG E ad nL σ (pc + 1) (a :: b :: d :: some (.int x) :: r) (.int x :: st)) : WG E ad nL σ (pc) (a :: b :: d :: some (.int x) :: r) (st) := by
  obtain ⟨p, l, e, R, s, m, args, below, meth, c, Q, D, cy, A, kc, ks⟩ := E
  obtain ⟨hx, hb, hml, hown, hts, hK, hAp, hAA, hkc, hks, hfr, hlo⟩ := X
  intro hR H locs ls hP hS hl
  exact lv_iload_n hx hb hdg rfl (hl.2.2 3 _ rfl) (k hR H locs ls hP hS hl)
theorem g_lload3 (X : Cx E ad cc nL own Ts fr lo) {a b d : Option Value} {r : List (Option Value)} {x : Int64} (hdg : decode cc pc = .ok (.lload_n 3, 1)) (k : WG E ad nL σ (pc + 1) (a :: b :: d :: some (.long x) :: r) (.long x :: st)) : WG E ad nL σ (pc) (a :: b :: d :: some (.long x) :: r) (st) := by
  obtain ⟨p, l, e, R, s, m, args, below, meth, c, Q, D, cy, A, kc, ks⟩ := E
  obtain ⟨hx, hb, hml, hown, hts, hK, hAp, hAA, hkc, hks, hfr, hlo⟩ := X
  intro hR H locs ls hP hS hl
  exact lv_lload_n hx hb hdg rfl (hl.2.2 3 _ rfl) (k hR H locs ls hP hS hl)
theorem g_istore3 (X : Cx E ad cc nL own Ts fr lo) {a b d : Option Value} {r : List (Option Value)} {u : Option Value} {x : Int32} (hdg : decode cc pc = .ok (.istore_n 3, 1)) (hn : 3 < nL) (hc : d = none ∨ ∃ v, d = some v ∧ v.category = 1) (k : WG E ad nL σ (pc + 1) (a :: b :: d :: some (.int x) :: r) (st)) : WG E ad nL σ (pc) (a :: b :: d :: u :: r) (.int x :: st) := by
  obtain ⟨p, l, e, R, s, m, args, below, meth, c, Q, D, cy, A, kc, ks⟩ := E
  obtain ⟨hx, hb, hml, hown, hts, hK, hAp, hAA, hkc, hks, hfr, hlo⟩ := X
  intro hR H locs ls hP hS hl
  refine lv_istore_n (i := 3) hx hb hdg rfl hl.has hn rfl (fun ls2 hl2 => ?_)
  exact k hR H locs ls2 hP hS (LV.put hl2 (fun v hv => Or.inr (by
        have e9 : d = some v := Option.some.inj hv
        rcases hc with h9 | ⟨v9, h9, h8⟩
        · rw [h9] at e9; cases e9
        · rw [h9] at e9; cases e9; exact h8)))
theorem g_iinc3 (X : Cx E ad cc nL own Ts fr lo) {a b d : Option Value} {r : List (Option Value)} {z n : Int} (hdg : decode cc pc = .ok (.iinc 3 n, 3)) (hn : 3 < nL) (hc : d = none ∨ ∃ v, d = some v ∧ v.category = 1) (k : WG E ad nL σ (pc + 3) (a :: b :: d :: some (.int (iI (z + n))) :: r) (st)) : WG E ad nL σ (pc) (a :: b :: d :: some (.int (iI z)) :: r) (st) := by
  obtain ⟨p, l, e, R, s, m, args, below, meth, c, Q, D, cy, A, kc, ks⟩ := E
  obtain ⟨hx, hb, hml, hown, hts, hK, hAp, hAA, hkc, hks, hfr, hlo⟩ := X
  intro hR H locs ls hP hS hl
  obtain ⟨kk, hkk⟩ := List.getElem?_of_mem (lvl_mem.mpr (show (a :: b :: d :: some (.int (iI z)) :: r)[3]? = some (some (Value.int (iI z))) from rfl))
  refine lv_iinc (k := kk) (v := iI (z + n)) hx hb hdg hl.has hkk (iI_add z n) hn rfl (fun ls2 hl2 => ?_)
  exact k hR H locs ls2 hP hS (LV.put hl2 (fun v hv => Or.inr (by
        have e9 : d = some v := Option.some.inj hv
        rcases hc with h9 | ⟨v9, h9, h8⟩
        · rw [h9] at e9; cases e9
        · rw [h9] at e9; cases e9; exact h8)))
theorem g_iload4 (X : Cx E ad cc nL own Ts fr lo) {a b d f : Option Value} {r : List (Option Value)} {x : Int32} (hdg : decode cc pc = .ok (.iload 4, 2)) (k : WG E ad nL σ (pc + 2) (a :: b :: d :: f :: some (.int x) :: r) (.int x :: st)) : WG E ad nL σ (pc) (a :: b :: d :: f :: some (.int x) :: r) (st) := by
  obtain ⟨p, l, e, R, s, m, args, below, meth, c, Q, D, cy, A, kc, ks⟩ := E
  obtain ⟨hx, hb, hml, hown, hts, hK, hAp, hAA, hkc, hks, hfr, hlo⟩ := X
  intro hR H locs ls hP hS hl
  exact lv_iload hx hb hdg (hl.2.2 4 _ rfl) (k hR H locs ls hP hS hl)
theorem g_istore4 (X : Cx E ad cc nL own Ts fr lo) {a b d f : Option Value} {r : List (Option Value)} {u : Option Value} {x : Int32} (hdg : decode cc pc = .ok (.istore 4, 2)) (hn : 4 < nL) (hc : f = none ∨ ∃ v, f = some v ∧ v.category = 1) (k : WG E ad nL σ (pc + 2) (a :: b :: d :: f :: some (.int x) :: r) (st)) : WG E ad nL σ (pc) (a :: b :: d :: f :: u :: r) (.int x :: st) := by
  obtain ⟨p, l, e, R, s, m, args, below, meth, c, Q, D, cy, A, kc, ks⟩ := E
  obtain ⟨hx, hb, hml, hown, hts, hK, hAp, hAA, hkc, hks, hfr, hlo⟩ := X
  intro hR H locs ls hP hS hl
  refine lv_istore (i := 4) hx hb hdg hl.has hn rfl (fun ls2 hl2 => ?_)
  exact k hR H locs ls2 hP hS (LV.put hl2 (fun v hv => Or.inr (by
        have e9 : f = some v := Option.some.inj hv
        rcases hc with h9 | ⟨v9, h9, h8⟩
        · rw [h9] at e9; cases e9
        · rw [h9] at e9; cases e9; exact h8)))
theorem g_iinc4 (X : Cx E ad cc nL own Ts fr lo) {a b d f : Option Value} {r : List (Option Value)} {z n : Int} (hdg : decode cc pc = .ok (.iinc 4 n, 3)) (hn : 4 < nL) (hc : f = none ∨ ∃ v, f = some v ∧ v.category = 1) (k : WG E ad nL σ (pc + 3) (a :: b :: d :: f :: some (.int (iI (z + n))) :: r) (st)) : WG E ad nL σ (pc) (a :: b :: d :: f :: some (.int (iI z)) :: r) (st) := by
  obtain ⟨p, l, e, R, s, m, args, below, meth, c, Q, D, cy, A, kc, ks⟩ := E
  obtain ⟨hx, hb, hml, hown, hts, hK, hAp, hAA, hkc, hks, hfr, hlo⟩ := X
  intro hR H locs ls hP hS hl
  obtain ⟨kk, hkk⟩ := List.getElem?_of_mem (lvl_mem.mpr (show (a :: b :: d :: f :: some (.int (iI z)) :: r)[4]? = some (some (Value.int (iI z))) from rfl))
  refine lv_iinc (k := kk) (v := iI (z + n)) hx hb hdg hl.has hkk (iI_add z n) hn rfl (fun ls2 hl2 => ?_)
  exact k hR H locs ls2 hP hS (LV.put hl2 (fun v hv => Or.inr (by
        have e9 : f = some v := Option.some.inj hv
        rcases hc with h9 | ⟨v9, h9, h8⟩
        · rw [h9] at e9; cases e9
        · rw [h9] at e9; cases e9; exact h8)))
theorem g_iload5 (X : Cx E ad cc nL own Ts fr lo) {a b d f g : Option Value} {r : List (Option Value)} {x : Int32} (hdg : decode cc pc = .ok (.iload 5, 2)) (k : WG E ad nL σ (pc + 2) (a :: b :: d :: f :: g :: some (.int x) :: r) (.int x :: st)) : WG E ad nL σ (pc) (a :: b :: d :: f :: g :: some (.int x) :: r) (st) := by
  obtain ⟨p, l, e, R, s, m, args, below, meth, c, Q, D, cy, A, kc, ks⟩ := E
  obtain ⟨hx, hb, hml, hown, hts, hK, hAp, hAA, hkc, hks, hfr, hlo⟩ := X
  intro hR H locs ls hP hS hl
  exact lv_iload hx hb hdg (hl.2.2 5 _ rfl) (k hR H locs ls hP hS hl)
theorem g_istore5 (X : Cx E ad cc nL own Ts fr lo) {a b d f g : Option Value} {r : List (Option Value)} {u : Option Value} {x : Int32} (hdg : decode cc pc = .ok (.istore 5, 2)) (hn : 5 < nL) (hc : g = none ∨ ∃ v, g = some v ∧ v.category = 1) (k : WG E ad nL σ (pc + 2) (a :: b :: d :: f :: g :: some (.int x) :: r) (st)) : WG E ad nL σ (pc) (a :: b :: d :: f :: g :: u :: r) (.int x :: st) := by
  obtain ⟨p, l, e, R, s, m, args, below, meth, c, Q, D, cy, A, kc, ks⟩ := E
  obtain ⟨hx, hb, hml, hown, hts, hK, hAp, hAA, hkc, hks, hfr, hlo⟩ := X
  intro hR H locs ls hP hS hl
  refine lv_istore (i := 5) hx hb hdg hl.has hn rfl (fun ls2 hl2 => ?_)
  exact k hR H locs ls2 hP hS (LV.put hl2 (fun v hv => Or.inr (by
        have e9 : g = some v := Option.some.inj hv
        rcases hc with h9 | ⟨v9, h9, h8⟩
        · rw [h9] at e9; cases e9
        · rw [h9] at e9; cases e9; exact h8)))
theorem g_iinc5 (X : Cx E ad cc nL own Ts fr lo) {a b d f g : Option Value} {r : List (Option Value)} {z n : Int} (hdg : decode cc pc = .ok (.iinc 5 n, 3)) (hn : 5 < nL) (hc : g = none ∨ ∃ v, g = some v ∧ v.category = 1) (k : WG E ad nL σ (pc + 3) (a :: b :: d :: f :: g :: some (.int (iI (z + n))) :: r) (st)) : WG E ad nL σ (pc) (a :: b :: d :: f :: g :: some (.int (iI z)) :: r) (st) := by
  obtain ⟨p, l, e, R, s, m, args, below, meth, c, Q, D, cy, A, kc, ks⟩ := E
  obtain ⟨hx, hb, hml, hown, hts, hK, hAp, hAA, hkc, hks, hfr, hlo⟩ := X
  intro hR H locs ls hP hS hl
  obtain ⟨kk, hkk⟩ := List.getElem?_of_mem (lvl_mem.mpr (show (a :: b :: d :: f :: g :: some (.int (iI z)) :: r)[5]? = some (some (Value.int (iI z))) from rfl))
  refine lv_iinc (k := kk) (v := iI (z + n)) hx hb hdg hl.has hkk (iI_add z n) hn rfl (fun ls2 hl2 => ?_)
  exact k hR H locs ls2 hP hS (LV.put hl2 (fun v hv => Or.inr (by
        have e9 : g = some v := Option.some.inj hv
        rcases hc with h9 | ⟨v9, h9, h8⟩
        · rw [h9] at e9; cases e9
        · rw [h9] at e9; cases e9; exact h8)))
theorem g_iload6 (X : Cx E ad cc nL own Ts fr lo) {a b d f g h : Option Value} {r : List (Option Value)} {x : Int32} (hdg : decode cc pc = .ok (.iload 6, 2)) (k : WG E ad nL σ (pc + 2) (a :: b :: d :: f :: g :: h :: some (.int x) :: r) (.int x :: st)) : WG E ad nL σ (pc) (a :: b :: d :: f :: g :: h :: some (.int x) :: r) (st) := by
  obtain ⟨p, l, e, R, s, m, args, below, meth, c, Q, D, cy, A, kc, ks⟩ := E
  obtain ⟨hx, hb, hml, hown, hts, hK, hAp, hAA, hkc, hks, hfr, hlo⟩ := X
  intro hR H locs ls hP hS hl
  exact lv_iload hx hb hdg (hl.2.2 6 _ rfl) (k hR H locs ls hP hS hl)
theorem g_istore6 (X : Cx E ad cc nL own Ts fr lo) {a b d f g h : Option Value} {r : List (Option Value)} {u : Option Value} {x : Int32} (hdg : decode cc pc = .ok (.istore 6, 2)) (hn : 6 < nL) (hc : h = none ∨ ∃ v, h = some v ∧ v.category = 1) (k : WG E ad nL σ (pc + 2) (a :: b :: d :: f :: g :: h :: some (.int x) :: r) (st)) : WG E ad nL σ (pc) (a :: b :: d :: f :: g :: h :: u :: r) (.int x :: st) := by
  obtain ⟨p, l, e, R, s, m, args, below, meth, c, Q, D, cy, A, kc, ks⟩ := E
  obtain ⟨hx, hb, hml, hown, hts, hK, hAp, hAA, hkc, hks, hfr, hlo⟩ := X
  intro hR H locs ls hP hS hl
  refine lv_istore (i := 6) hx hb hdg hl.has hn rfl (fun ls2 hl2 => ?_)
  exact k hR H locs ls2 hP hS (LV.put hl2 (fun v hv => Or.inr (by
        have e9 : h = some v := Option.some.inj hv
        rcases hc with h9 | ⟨v9, h9, h8⟩
        · rw [h9] at e9; cases e9
        · rw [h9] at e9; cases e9; exact h8)))
theorem g_iinc6 (X : Cx E ad cc nL own Ts fr lo) {a b d f g h : Option Value} {r : List (Option Value)} {z n : Int} (hdg : decode cc pc = .ok (.iinc 6 n, 3)) (hn : 6 < nL) (hc : h = none ∨ ∃ v, h = some v ∧ v.category = 1) (k : WG E ad nL σ (pc + 3) (a :: b :: d :: f :: g :: h :: some (.int (iI (z + n))) :: r) (st)) : WG E ad nL σ (pc) (a :: b :: d :: f :: g :: h :: some (.int (iI z)) :: r) (st) := by
  obtain ⟨p, l, e, R, s, m, args, below, meth, c, Q, D, cy, A, kc, ks⟩ := E
  obtain ⟨hx, hb, hml, hown, hts, hK, hAp, hAA, hkc, hks, hfr, hlo⟩ := X
  intro hR H locs ls hP hS hl
  obtain ⟨kk, hkk⟩ := List.getElem?_of_mem (lvl_mem.mpr (show (a :: b :: d :: f :: g :: h :: some (.int (iI z)) :: r)[6]? = some (some (Value.int (iI z))) from rfl))
  refine lv_iinc (k := kk) (v := iI (z + n)) hx hb hdg hl.has hkk (iI_add z n) hn rfl (fun ls2 hl2 => ?_)
  exact k hR H locs ls2 hP hS (LV.put hl2 (fun v hv => Or.inr (by
        have e9 : h = some v := Option.some.inj hv
        rcases hc with h9 | ⟨v9, h9, h8⟩
        · rw [h9] at e9; cases e9
        · rw [h9] at e9; cases e9; exact h8)))
theorem g_iload7 (X : Cx E ad cc nL own Ts fr lo) {a b d f g h i : Option Value} {r : List (Option Value)} {x : Int32} (hdg : decode cc pc = .ok (.iload 7, 2)) (k : WG E ad nL σ (pc + 2) (a :: b :: d :: f :: g :: h :: i :: some (.int x) :: r) (.int x :: st)) : WG E ad nL σ (pc) (a :: b :: d :: f :: g :: h :: i :: some (.int x) :: r) (st) := by
  obtain ⟨p, l, e, R, s, m, args, below, meth, c, Q, D, cy, A, kc, ks⟩ := E
  obtain ⟨hx, hb, hml, hown, hts, hK, hAp, hAA, hkc, hks, hfr, hlo⟩ := X
  intro hR H locs ls hP hS hl
  exact lv_iload hx hb hdg (hl.2.2 7 _ rfl) (k hR H locs ls hP hS hl)
theorem g_istore7 (X : Cx E ad cc nL own Ts fr lo) {a b d f g h i : Option Value} {r : List (Option Value)} {u : Option Value} {x : Int32} (hdg : decode cc pc = .ok (.istore 7, 2)) (hn : 7 < nL) (hc : i = none ∨ ∃ v, i = some v ∧ v.category = 1) (k : WG E ad nL σ (pc + 2) (a :: b :: d :: f :: g :: h :: i :: some (.int x) :: r) (st)) : WG E ad nL σ (pc) (a :: b :: d :: f :: g :: h :: i :: u :: r) (.int x :: st) := by
  obtain ⟨p, l, e, R, s, m, args, below, meth, c, Q, D, cy, A, kc, ks⟩ := E
  obtain ⟨hx, hb, hml, hown, hts, hK, hAp, hAA, hkc, hks, hfr, hlo⟩ := X
  intro hR H locs ls hP hS hl
  refine lv_istore (i := 7) hx hb hdg hl.has hn rfl (fun ls2 hl2 => ?_)
  exact k hR H locs ls2 hP hS (LV.put hl2 (fun v hv => Or.inr (by
        have e9 : i = some v := Option.some.inj hv
        rcases hc with h9 | ⟨v9, h9, h8⟩
        · rw [h9] at e9; cases e9
        · rw [h9] at e9; cases e9; exact h8)))
theorem g_iinc7 (X : Cx E ad cc nL own Ts fr lo) {a b d f g h i : Option Value} {r : List (Option Value)} {z n : Int} (hdg : decode cc pc = .ok (.iinc 7 n, 3)) (hn : 7 < nL) (hc : i = none ∨ ∃ v, i = some v ∧ v.category = 1) (k : WG E ad nL σ (pc + 3) (a :: b :: d :: f :: g :: h :: i :: some (.int (iI (z + n))) :: r) (st)) : WG E ad nL σ (pc) (a :: b :: d :: f :: g :: h :: i :: some (.int (iI z)) :: r) (st) := by
  obtain ⟨p, l, e, R, s, m, args, below, meth, c, Q, D, cy, A, kc, ks⟩ := E
  obtain ⟨hx, hb, hml, hown, hts, hK, hAp, hAA, hkc, hks, hfr, hlo⟩ := X
  intro hR H locs ls hP hS hl
  obtain ⟨kk, hkk⟩ := List.getElem?_of_mem (lvl_mem.mpr (show (a :: b :: d :: f :: g :: h :: i :: some (.int (iI z)) :: r)[7]? = some (some (Value.int (iI z))) from rfl))
  refine lv_iinc (k := kk) (v := iI (z + n)) hx hb hdg hl.has hkk (iI_add z n) hn rfl (fun ls2 hl2 => ?_)
  exact k hR H locs ls2 hP hS (LV.put hl2 (fun v hv => Or.inr (by
        have e9 : i = some v := Option.some.inj hv
        rcases hc with h9 | ⟨v9, h9, h8⟩
        · rw [h9] at e9; cases e9
        · rw [h9] at e9; cases e9; exact h8)))
theorem g_iload8 (X : Cx E ad cc nL own Ts fr lo) {a b d f g h i j : Option Value} {r : List (Option Value)} {x : Int32} (hdg : decode cc pc = .ok (.iload 8, 2)) (k : WG E ad nL σ (pc + 2) (a :: b :: d :: f :: g :: h :: i :: j :: some (.int x) :: r) (.int x :: st)) : WG E ad nL σ (pc) (a :: b :: d :: f :: g :: h :: i :: j :: some (.int x) :: r) (st) := by
  obtain ⟨p, l, e, R, s, m, args, below, meth, c, Q, D, cy, A, kc, ks⟩ := E
  obtain ⟨hx, hb, hml, hown, hts, hK, hAp, hAA, hkc, hks, hfr, hlo⟩ := X
  intro hR H locs ls hP hS hl
  exact lv_iload hx hb hdg (hl.2.2 8 _ rfl) (k hR H locs ls hP hS hl)
theorem g_istore8 (X : Cx E ad cc nL own Ts fr lo) {a b d f g h i j : Option Value} {r : List (Option Value)} {u : Option Value} {x : Int32} (hdg : decode cc pc = .ok (.istore 8, 2)) (hn : 8 < nL) (hc : j = none ∨ ∃ v, j = some v ∧ v.category = 1) (k : WG E ad nL σ (pc + 2) (a :: b :: d :: f :: g :: h :: i :: j :: some (.int x) :: r) (st)) : WG E ad nL σ (pc) (a :: b :: d :: f :: g :: h :: i :: j :: u :: r) (.int x :: st) := by
  obtain ⟨p, l, e, R, s, m, args, below, meth, c, Q, D, cy, A, kc, ks⟩ := E
  obtain ⟨hx, hb, hml, hown, hts, hK, hAp, hAA, hkc, hks, hfr, hlo⟩ := X
  intro hR H locs ls hP hS hl
  refine lv_istore (i := 8) hx hb hdg hl.has hn rfl (fun ls2 hl2 => ?_)
  exact k hR H locs ls2 hP hS (LV.put hl2 (fun v hv => Or.inr (by
        have e9 : j = some v := Option.some.inj hv
        rcases hc with h9 | ⟨v9, h9, h8⟩
        · rw [h9] at e9; cases e9
        · rw [h9] at e9; cases e9; exact h8)))
theorem g_iinc8 (X : Cx E ad cc nL own Ts fr lo) {a b d f g h i j : Option Value} {r : List (Option Value)} {z n : Int} (hdg : decode cc pc = .ok (.iinc 8 n, 3)) (hn : 8 < nL) (hc : j = none ∨ ∃ v, j = some v ∧ v.category = 1) (k : WG E ad nL σ (pc + 3) (a :: b :: d :: f :: g :: h :: i :: j :: some (.int (iI (z + n))) :: r) (st)) : WG E ad nL σ (pc) (a :: b :: d :: f :: g :: h :: i :: j :: some (.int (iI z)) :: r) (st) := by
  obtain ⟨p, l, e, R, s, m, args, below, meth, c, Q, D, cy, A, kc, ks⟩ := E
  obtain ⟨hx, hb, hml, hown, hts, hK, hAp, hAA, hkc, hks, hfr, hlo⟩ := X
  intro hR H locs ls hP hS hl
  obtain ⟨kk, hkk⟩ := List.getElem?_of_mem (lvl_mem.mpr (show (a :: b :: d :: f :: g :: h :: i :: j :: some (.int (iI z)) :: r)[8]? = some (some (Value.int (iI z))) from rfl))
  refine lv_iinc (k := kk) (v := iI (z + n)) hx hb hdg hl.has hkk (iI_add z n) hn rfl (fun ls2 hl2 => ?_)
  exact k hR H locs ls2 hP hS (LV.put hl2 (fun v hv => Or.inr (by
        have e9 : j = some v := Option.some.inj hv
        rcases hc with h9 | ⟨v9, h9, h8⟩
        · rw [h9] at e9; cases e9
        · rw [h9] at e9; cases e9; exact h8)))
theorem g_iadd (X : Cx E ad cc nL own Ts fr lo) {a b : Int} (hdg : decode cc pc = .ok (.iadd, 1)) (k : WG E ad nL σ (pc + 1) lv (.int (iI (a + b)) :: st)) : WG E ad nL σ (pc) lv (.int (iI b) :: .int (iI a) :: st) := by
  obtain ⟨p, l, e, R, s, m, args, below, meth, c, Q, D, cy, A, kc, ks⟩ := E
  obtain ⟨hx, hb, hml, hown, hts, hK, hAp, hAA, hkc, hks, hfr, hlo⟩ := X
  intro hR H locs ls hP hS hl
  refine lv_iadd hx hb hdg ?_
  rw [iI_add]
  exact k hR H locs ls hP hS hl
theorem g_isub (X : Cx E ad cc nL own Ts fr lo) {a b : Int} (hdg : decode cc pc = .ok (.isub, 1)) (k : WG E ad nL σ (pc + 1) lv (.int (iI (a - b)) :: st)) : WG E ad nL σ (pc) lv (.int (iI b) :: .int (iI a) :: st) := by
  obtain ⟨p, l, e, R, s, m, args, below, meth, c, Q, D, cy, A, kc, ks⟩ := E
  obtain ⟨hx, hb, hml, hown, hts, hK, hAp, hAA, hkc, hks, hfr, hlo⟩ := X
  intro hR H locs ls hP hS hl
  refine lv_isub hx hb hdg ?_
  rw [iI_sub]
  exact k hR H locs ls hP hS hl
theorem g_imul (X : Cx E ad cc nL own Ts fr lo) {a b : Int} (hdg : decode cc pc = .ok (.imul, 1)) (k : WG E ad nL σ (pc + 1) lv (.int (iI (a * b)) :: st)) : WG E ad nL σ (pc) lv (.int (iI b) :: .int (iI a) :: st) := by
  obtain ⟨p, l, e, R, s, m, args, below, meth, c, Q, D, cy, A, kc, ks⟩ := E
  obtain ⟨hx, hb, hml, hown, hts, hK, hAp, hAA, hkc, hks, hfr, hlo⟩ := X
  intro hR H locs ls hP hS hl
  refine lv_imul hx hb hdg ?_
  rw [iI_mul]
  exact k hR H locs ls hP hS hl
theorem g_ineg (X : Cx E ad cc nL own Ts fr lo) {a : Int} (hdg : decode cc pc = .ok (.ineg, 1)) (k : WG E ad nL σ (pc + 1) lv (.int (iI (-a)) :: st)) : WG E ad nL σ (pc) lv (.int (iI a) :: st) := by
  obtain ⟨p, l, e, R, s, m, args, below, meth, c, Q, D, cy, A, kc, ks⟩ := E
  obtain ⟨hx, hb, hml, hown, hts, hK, hAp, hAA, hkc, hks, hfr, hlo⟩ := X
  intro hR H locs ls hP hS hl
  refine lv_ineg hx hb hdg ?_
  rw [iI_neg]
  exact k hR H locs ls hP hS hl
theorem g_iand (X : Cx E ad cc nL own Ts fr lo) {a b z : Int} (hz : iI a &&& iI b = iI z) (hdg : decode cc pc = .ok (.iand, 1)) (k : WG E ad nL σ (pc + 1) lv (.int (iI z) :: st)) : WG E ad nL σ (pc) lv (.int (iI b) :: .int (iI a) :: st) := by
  obtain ⟨p, l, e, R, s, m, args, below, meth, c, Q, D, cy, A, kc, ks⟩ := E
  obtain ⟨hx, hb, hml, hown, hts, hK, hAp, hAA, hkc, hks, hfr, hlo⟩ := X
  intro hR H locs ls hP hS hl
  refine lv_iand hx hb hdg ?_
  rw [hz]
  exact k hR H locs ls hP hS hl
theorem g_ior (X : Cx E ad cc nL own Ts fr lo) {a b z : Int} (hz : iI a ||| iI b = iI z) (hdg : decode cc pc = .ok (.ior, 1)) (k : WG E ad nL σ (pc + 1) lv (.int (iI z) :: st)) : WG E ad nL σ (pc) lv (.int (iI b) :: .int (iI a) :: st) := by
  obtain ⟨p, l, e, R, s, m, args, below, meth, c, Q, D, cy, A, kc, ks⟩ := E
  obtain ⟨hx, hb, hml, hown, hts, hK, hAp, hAA, hkc, hks, hfr, hlo⟩ := X
  intro hR H locs ls hP hS hl
  refine lv_ior hx hb hdg ?_
  rw [hz]
  exact k hR H locs ls hP hS hl
theorem g_ixor (X : Cx E ad cc nL own Ts fr lo) {a b z : Int} (hz : iI a ^^^ iI b = iI z) (hdg : decode cc pc = .ok (.ixor, 1)) (k : WG E ad nL σ (pc + 1) lv (.int (iI z) :: st)) : WG E ad nL σ (pc) lv (.int (iI b) :: .int (iI a) :: st) := by
  obtain ⟨p, l, e, R, s, m, args, below, meth, c, Q, D, cy, A, kc, ks⟩ := E
  obtain ⟨hx, hb, hml, hown, hts, hK, hAp, hAA, hkc, hks, hfr, hlo⟩ := X
  intro hR H locs ls hP hS hl
  refine lv_ixor hx hb hdg ?_
  rw [hz]
  exact k hR H locs ls hP hS hl
theorem g_ishl (X : Cx E ad cc nL own Ts fr lo) {a b z : Int} (hz : iI a <<< (iI b &&& 31) = iI z) (hdg : decode cc pc = .ok (.ishl, 1)) (k : WG E ad nL σ (pc + 1) lv (.int (iI z) :: st)) : WG E ad nL σ (pc) lv (.int (iI b) :: .int (iI a) :: st) := by
  obtain ⟨p, l, e, R, s, m, args, below, meth, c, Q, D, cy, A, kc, ks⟩ := E
  obtain ⟨hx, hb, hml, hown, hts, hK, hAp, hAA, hkc, hks, hfr, hlo⟩ := X
  intro hR H locs ls hP hS hl
  refine lv_ishl hx hb hdg ?_
  rw [hz]
  exact k hR H locs ls hP hS hl
theorem g_ishr (X : Cx E ad cc nL own Ts fr lo) {a b z : Int} (hz : iI a >>> (iI b &&& 31) = iI z) (hdg : decode cc pc = .ok (.ishr, 1)) (k : WG E ad nL σ (pc + 1) lv (.int (iI z) :: st)) : WG E ad nL σ (pc) lv (.int (iI b) :: .int (iI a) :: st) := by
  obtain ⟨p, l, e, R, s, m, args, below, meth, c, Q, D, cy, A, kc, ks⟩ := E
  obtain ⟨hx, hb, hml, hown, hts, hK, hAp, hAA, hkc, hks, hfr, hlo⟩ := X
  intro hR H locs ls hP hS hl
  refine lv_ishr hx hb hdg ?_
  rw [hz]
  exact k hR H locs ls hP hS hl
theorem g_iushr (X : Cx E ad cc nL own Ts fr lo) {a b z : Int} (hz : ((iI a).toUInt32 >>> ((iI b).toUInt32 &&& Int32.toUInt32 31)).toInt32 = iI z) (hdg : decode cc pc = .ok (.iushr, 1)) (k : WG E ad nL σ (pc + 1) lv (.int (iI z) :: st)) : WG E ad nL σ (pc) lv (.int (iI b) :: .int (iI a) :: st) := by
  obtain ⟨p, l, e, R, s, m, args, below, meth, c, Q, D, cy, A, kc, ks⟩ := E
  obtain ⟨hx, hb, hml, hown, hts, hK, hAp, hAA, hkc, hks, hfr, hlo⟩ := X
  intro hR H locs ls hP hS hl
  exact lv_iushr hx hb hdg hz (k hR H locs ls hP hS hl)
theorem g_i2l (X : Cx E ad cc nL own Ts fr lo) {x : Int32} (hdg : decode cc pc = .ok (.i2l, 1)) (k : WG E ad nL σ (pc + 1) lv (.long x.toInt64 :: st)) : WG E ad nL σ (pc) lv (.int x :: st) := by
  obtain ⟨p, l, e, R, s, m, args, below, meth, c, Q, D, cy, A, kc, ks⟩ := E
  obtain ⟨hx, hb, hml, hown, hts, hK, hAp, hAA, hkc, hks, hfr, hlo⟩ := X
  intro hR H locs ls hP hS hl
  exact lv_i2l hx hb hdg rfl (k hR H locs ls hP hS hl)
theorem g_l2i (X : Cx E ad cc nL own Ts fr lo) {x : Int64} (hdg : decode cc pc = .ok (.l2i, 1)) (k : WG E ad nL σ (pc + 1) lv (.int x.toInt32 :: st)) : WG E ad nL σ (pc) lv (.long x :: st) := by
  obtain ⟨p, l, e, R, s, m, args, below, meth, c, Q, D, cy, A, kc, ks⟩ := E
  obtain ⟨hx, hb, hml, hown, hts, hK, hAp, hAA, hkc, hks, hfr, hlo⟩ := X
  intro hR H locs ls hP hS hl
  exact lv_l2i hx hb hdg rfl (k hR H locs ls hP hS hl)
theorem g_lmul (X : Cx E ad cc nL own Ts fr lo) {x y : Int64} (hdg : decode cc pc = .ok (.lmul, 1)) (k : WG E ad nL σ (pc + 1) lv (.long (x * y) :: st)) : WG E ad nL σ (pc) lv (.long y :: .long x :: st) := by
  obtain ⟨p, l, e, R, s, m, args, below, meth, c, Q, D, cy, A, kc, ks⟩ := E
  obtain ⟨hx, hb, hml, hown, hts, hK, hAp, hAA, hkc, hks, hfr, hlo⟩ := X
  intro hR H locs ls hP hS hl
  exact lv_lmul hx hb hdg (k hR H locs ls hP hS hl)
theorem g_lcmp (X : Cx E ad cc nL own Ts fr lo) {x y : Int64} (hdg : decode cc pc = .ok (.lcmp, 1)) (k : WG E ad nL σ (pc + 1) lv (.int (lg_cmp x y) :: st)) : WG E ad nL σ (pc) lv (.long y :: .long x :: st) := by
  obtain ⟨p, l, e, R, s, m, args, below, meth, c, Q, D, cy, A, kc, ks⟩ := E
  obtain ⟨hx, hb, hml, hown, hts, hK, hAp, hAA, hkc, hks, hfr, hlo⟩ := X
  intro hR H locs ls hP hS hl
  exact W.lcmp hx hb hdg (k hR H locs ls hP hS hl)
theorem g_i2c (X : Cx E ad cc nL own Ts fr lo) {z : Int} (hz : 0 ≤ z ∧ z < 65536) (hdg : decode cc pc = .ok (.i2c, 1)) (k : WG E ad nL σ (pc + 1) lv (.int (iI z) :: st)) : WG E ad nL σ (pc) lv (.int (iI z) :: st) := by
  obtain ⟨p, l, e, R, s, m, args, below, meth, c, Q, D, cy, A, kc, ks⟩ := E
  obtain ⟨hx, hb, hml, hown, hts, hK, hAp, hAA, hkc, hks, hfr, hlo⟩ := X
  intro hR H locs ls hP hS hl
  refine lv_i2c hx hb hdg (lg_i2c_word ?_ ?_) (k hR H locs ls hP hS hl)
  · rw [iI_toInt ⟨by omega, by omega⟩]; exact hz.1
  · rw [iI_toInt ⟨by omega, by omega⟩]; exact hz.2
theorem g_goto (X : Cx E ad cc nL own Ts fr lo) {off : Int} {tgt : Nat} (hdg : decode cc pc = .ok (.goto off, 3)) (ht : (pc : Int) + off = (tgt : Int)) (k : WG E ad nL σ (tgt) lv (st)) : WG E ad nL σ (pc) lv (st) := by
  obtain ⟨p, l, e, R, s, m, args, below, meth, c, Q, D, cy, A, kc, ks⟩ := E
  obtain ⟨hx, hb, hml, hown, hts, hK, hAp, hAA, hkc, hks, hfr, hlo⟩ := X
  intro hR H locs ls hP hS hl
  exact lv_goto hx hb hdg ht (k hR H locs ls hP hS hl)
theorem g_icmp_eq (X : Cx E ad cc nL own Ts fr lo) {a b off : Int} {tgt : Nat} (ha : InR a) (hb0 : InR b) (hdg : decode cc pc = .ok (.if_icmp .eq off, 3)) (ht : (pc : Int) + off = (tgt : Int)) (k1 : a = b → WG E ad nL σ (tgt) lv (st)) (k2 : ¬ a = b → WG E ad nL σ (pc + 3) lv (st)) : WG E ad nL σ (pc) lv (.int (iI b) :: .int (iI a) :: st) := by
  obtain ⟨p, l, e, R, s, m, args, below, meth, c, Q, D, cy, A, kc, ks⟩ := E
  obtain ⟨hx, hb, hml, hown, hts, hK, hAp, hAA, hkc, hks, hfr, hlo⟩ := X
  intro hR H locs ls hP hS hl
  exact lv_icmp_eq hx hb hdg ht (fun h9 => k1 ((iI_eq ha hb0).mp h9) hR H locs ls hP hS hl) (fun h9 => k2 (fun q9 => h9 ((iI_eq ha hb0).mpr q9)) hR H locs ls hP hS hl)
theorem g_if_eq (X : Cx E ad cc nL own Ts fr lo) {a off : Int} {tgt : Nat} (ha : InR a) (hdg : decode cc pc = .ok (.ifCond .eq off, 3)) (ht : (pc : Int) + off = (tgt : Int)) (k1 : a = 0 → WG E ad nL σ (tgt) lv (st)) (k2 : ¬ a = 0 → WG E ad nL σ (pc + 3) lv (st)) : WG E ad nL σ (pc) lv (.int (iI a) :: st) := by
  obtain ⟨p, l, e, R, s, m, args, below, meth, c, Q, D, cy, A, kc, ks⟩ := E
  obtain ⟨hx, hb, hml, hown, hts, hK, hAp, hAA, hkc, hks, hfr, hlo⟩ := X
  intro hR H locs ls hP hS hl
  exact lv_if_eq hx hb hdg ht (fun h9 => k1 ((iI_eq ha InR_0).mp h9) hR H locs ls hP hS hl) (fun h9 => k2 (fun q9 => h9 ((iI_eq ha InR_0).mpr q9)) hR H locs ls hP hS hl)
theorem g_icmp_ne (X : Cx E ad cc nL own Ts fr lo) {a b off : Int} {tgt : Nat} (ha : InR a) (hb0 : InR b) (hdg : decode cc pc = .ok (.if_icmp .ne off, 3)) (ht : (pc : Int) + off = (tgt : Int)) (k1 : ¬ a = b → WG E ad nL σ (tgt) lv (st)) (k2 : a = b → WG E ad nL σ (pc + 3) lv (st)) : WG E ad nL σ (pc) lv (.int (iI b) :: .int (iI a) :: st) := by
  obtain ⟨p, l, e, R, s, m, args, below, meth, c, Q, D, cy, A, kc, ks⟩ := E
  obtain ⟨hx, hb, hml, hown, hts, hK, hAp, hAA, hkc, hks, hfr, hlo⟩ := X
  intro hR H locs ls hP hS hl
  exact lv_icmp_ne hx hb hdg ht (fun h9 => k1 (fun q9 => h9 ((iI_eq ha hb0).mpr q9)) hR H locs ls hP hS hl) (fun h9 => k2 ((iI_eq ha hb0).mp h9) hR H locs ls hP hS hl)
theorem g_if_ne (X : Cx E ad cc nL own Ts fr lo) {a off : Int} {tgt : Nat} (ha : InR a) (hdg : decode cc pc = .ok (.ifCond .ne off, 3)) (ht : (pc : Int) + off = (tgt : Int)) (k1 : ¬ a = 0 → WG E ad nL σ (tgt) lv (st)) (k2 : a = 0 → WG E ad nL σ (pc + 3) lv (st)) : WG E ad nL σ (pc) lv (.int (iI a) :: st) := by
  obtain ⟨p, l, e, R, s, m, args, below, meth, c, Q, D, cy, A, kc, ks⟩ := E
  obtain ⟨hx, hb, hml, hown, hts, hK, hAp, hAA, hkc, hks, hfr, hlo⟩ := X
  intro hR H locs ls hP hS hl
  exact lv_if_ne hx hb hdg ht (fun h9 => k1 (fun q9 => h9 ((iI_eq ha InR_0).mpr q9)) hR H locs ls hP hS hl) (fun h9 => k2 ((iI_eq ha InR_0).mp h9) hR H locs ls hP hS hl)
theorem g_icmp_lt (X : Cx E ad cc nL own Ts fr lo) {a b off : Int} {tgt : Nat} (ha : InR a) (hb0 : InR b) (hdg : decode cc pc = .ok (.if_icmp .lt off, 3)) (ht : (pc : Int) + off = (tgt : Int)) (k1 : a < b → WG E ad nL σ (tgt) lv (st)) (k2 : ¬ a < b → WG E ad nL σ (pc + 3) lv (st)) : WG E ad nL σ (pc) lv (.int (iI b) :: .int (iI a) :: st) := by
  obtain ⟨p, l, e, R, s, m, args, below, meth, c, Q, D, cy, A, kc, ks⟩ := E
  obtain ⟨hx, hb, hml, hown, hts, hK, hAp, hAA, hkc, hks, hfr, hlo⟩ := X
  intro hR H locs ls hP hS hl
  exact lv_icmp_lt hx hb hdg ht (fun h9 => k1 ((iI_lt ha hb0).mp h9) hR H locs ls hP hS hl) (fun h9 => k2 (fun q9 => h9 ((iI_lt ha hb0).mpr q9)) hR H locs ls hP hS hl)
theorem g_if_lt (X : Cx E ad cc nL own Ts fr lo) {a off : Int} {tgt : Nat} (ha : InR a) (hdg : decode cc pc = .ok (.ifCond .lt off, 3)) (ht : (pc : Int) + off = (tgt : Int)) (k1 : a < 0 → WG E ad nL σ (tgt) lv (st)) (k2 : ¬ a < 0 → WG E ad nL σ (pc + 3) lv (st)) : WG E ad nL σ (pc) lv (.int (iI a) :: st) := by
  obtain ⟨p, l, e, R, s, m, args, below, meth, c, Q, D, cy, A, kc, ks⟩ := E
  obtain ⟨hx, hb, hml, hown, hts, hK, hAp, hAA, hkc, hks, hfr, hlo⟩ := X
  intro hR H locs ls hP hS hl
  exact lv_if_lt hx hb hdg ht (fun h9 => k1 ((iI_lt ha InR_0).mp h9) hR H locs ls hP hS hl) (fun h9 => k2 (fun q9 => h9 ((iI_lt ha InR_0).mpr q9)) hR H locs ls hP hS hl)
theorem g_icmp_ge (X : Cx E ad cc nL own Ts fr lo) {a b off : Int} {tgt : Nat} (ha : InR a) (hb0 : InR b) (hdg : decode cc pc = .ok (.if_icmp .ge off, 3)) (ht : (pc : Int) + off = (tgt : Int)) (k1 : b ≤ a → WG E ad nL σ (tgt) lv (st)) (k2 : ¬ b ≤ a → WG E ad nL σ (pc + 3) lv (st)) : WG E ad nL σ (pc) lv (.int (iI b) :: .int (iI a) :: st) := by
  obtain ⟨p, l, e, R, s, m, args, below, meth, c, Q, D, cy, A, kc, ks⟩ := E
  obtain ⟨hx, hb, hml, hown, hts, hK, hAp, hAA, hkc, hks, hfr, hlo⟩ := X
  intro hR H locs ls hP hS hl
  exact lv_icmp_ge hx hb hdg ht (fun h9 => k1 ((iI_le hb0 ha).mp h9) hR H locs ls hP hS hl) (fun h9 => k2 (fun q9 => h9 ((iI_le hb0 ha).mpr q9)) hR H locs ls hP hS hl)
theorem g_if_ge (X : Cx E ad cc nL own Ts fr lo) {a off : Int} {tgt : Nat} (ha : InR a) (hdg : decode cc pc = .ok (.ifCond .ge off, 3)) (ht : (pc : Int) + off = (tgt : Int)) (k1 : 0 ≤ a → WG E ad nL σ (tgt) lv (st)) (k2 : ¬ 0 ≤ a → WG E ad nL σ (pc + 3) lv (st)) : WG E ad nL σ (pc) lv (.int (iI a) :: st) := by
  obtain ⟨p, l, e, R, s, m, args, below, meth, c, Q, D, cy, A, kc, ks⟩ := E
  obtain ⟨hx, hb, hml, hown, hts, hK, hAp, hAA, hkc, hks, hfr, hlo⟩ := X
  intro hR H locs ls hP hS hl
  exact lv_if_ge hx hb hdg ht (fun h9 => k1 ((iI_le InR_0 ha).mp h9) hR H locs ls hP hS hl) (fun h9 => k2 (fun q9 => h9 ((iI_le InR_0 ha).mpr q9)) hR H locs ls hP hS hl)
theorem g_icmp_gt (X : Cx E ad cc nL own Ts fr lo) {a b off : Int} {tgt : Nat} (ha : InR a) (hb0 : InR b) (hdg : decode cc pc = .ok (.if_icmp .gt off, 3)) (ht : (pc : Int) + off = (tgt : Int)) (k1 : b < a → WG E ad nL σ (tgt) lv (st)) (k2 : ¬ b < a → WG E ad nL σ (pc + 3) lv (st)) : WG E ad nL σ (pc) lv (.int (iI b) :: .int (iI a) :: st) := by
  obtain ⟨p, l, e, R, s, m, args, below, meth, c, Q, D, cy, A, kc, ks⟩ := E
  obtain ⟨hx, hb, hml, hown, hts, hK, hAp, hAA, hkc, hks, hfr, hlo⟩ := X
  intro hR H locs ls hP hS hl
  exact lv_icmp_gt hx hb hdg ht (fun h9 => k1 ((iI_lt hb0 ha).mp h9) hR H locs ls hP hS hl) (fun h9 => k2 (fun q9 => h9 ((iI_lt hb0 ha).mpr q9)) hR H locs ls hP hS hl)
theorem g_if_gt (X : Cx E ad cc nL own Ts fr lo) {a off : Int} {tgt : Nat} (ha : InR a) (hdg : decode cc pc = .ok (.ifCond .gt off, 3)) (ht : (pc : Int) + off = (tgt : Int)) (k1 : 0 < a → WG E ad nL σ (tgt) lv (st)) (k2 : ¬ 0 < a → WG E ad nL σ (pc + 3) lv (st)) : WG E ad nL σ (pc) lv (.int (iI a) :: st) := by
  obtain ⟨p, l, e, R, s, m, args, below, meth, c, Q, D, cy, A, kc, ks⟩ := E
  obtain ⟨hx, hb, hml, hown, hts, hK, hAp, hAA, hkc, hks, hfr, hlo⟩ := X
  intro hR H locs ls hP hS hl
  exact lv_if_gt hx hb hdg ht (fun h9 => k1 ((iI_lt InR_0 ha).mp h9) hR H locs ls hP hS hl) (fun h9 => k2 (fun q9 => h9 ((iI_lt InR_0 ha).mpr q9)) hR H locs ls hP hS hl)
theorem g_icmp_le (X : Cx E ad cc nL own Ts fr lo) {a b off : Int} {tgt : Nat} (ha : InR a) (hb0 : InR b) (hdg : decode cc pc = .ok (.if_icmp .le off, 3)) (ht : (pc : Int) + off = (tgt : Int)) (k1 : a ≤ b → WG E ad nL σ (tgt) lv (st)) (k2 : ¬ a ≤ b → WG E ad nL σ (pc + 3) lv (st)) : WG E ad nL σ (pc) lv (.int (iI b) :: .int (iI a) :: st) := by
  obtain ⟨p, l, e, R, s, m, args, below, meth, c, Q, D, cy, A, kc, ks⟩ := E
  obtain ⟨hx, hb, hml, hown, hts, hK, hAp, hAA, hkc, hks, hfr, hlo⟩ := X
  intro hR H locs ls hP hS hl
  exact lv_icmp_le hx hb hdg ht (fun h9 => k1 ((iI_le ha hb0).mp h9) hR H locs ls hP hS hl) (fun h9 => k2 (fun q9 => h9 ((iI_le ha hb0).mpr q9)) hR H locs ls hP hS hl)
theorem g_if_le (X : Cx E ad cc nL own Ts fr lo) {a off : Int} {tgt : Nat} (ha : InR a) (hdg : decode cc pc = .ok (.ifCond .le off, 3)) (ht : (pc : Int) + off = (tgt : Int)) (k1 : a ≤ 0 → WG E ad nL σ (tgt) lv (st)) (k2 : ¬ a ≤ 0 → WG E ad nL σ (pc + 3) lv (st)) : WG E ad nL σ (pc) lv (.int (iI a) :: st) := by
  obtain ⟨p, l, e, R, s, m, args, below, meth, c, Q, D, cy, A, kc, ks⟩ := E
  obtain ⟨hx, hb, hml, hown, hts, hK, hAp, hAA, hkc, hks, hfr, hlo⟩ := X
  intro hR H locs ls hP hS hl
  exact lv_if_le hx hb hdg ht (fun h9 => k1 ((iI_le ha InR_0).mp h9) hR H locs ls hP hS hl) (fun h9 => k2 (fun q9 => h9 ((iI_le ha InR_0).mpr q9)) hR H locs ls hP hS hl)
theorem g_dup (X : Cx E ad cc nL own Ts fr lo) {v : Value} (hdg : decode cc pc = .ok (.dup, 1)) (hv : v.category = 1) (k : WG E ad nL σ (pc + 1) lv (v :: v :: st)) : WG E ad nL σ (pc) lv (v :: st) := by
  obtain ⟨p, l, e, R, s, m, args, below, meth, c, Q, D, cy, A, kc, ks⟩ := E
  obtain ⟨hx, hb, hml, hown, hts, hK, hAp, hAA, hkc, hks, hfr, hlo⟩ := X
  intro hR H locs ls hP hS hl
  exact lv_dup hx hb hdg hv (k hR H locs ls hP hS hl)
theorem g_dup2 (X : Cx E ad cc nL own Ts fr lo) {v u : Value} (hdg : decode cc pc = .ok (.dup2, 1)) (hv : v.category = 1) (hu : u.category = 1) (k : WG E ad nL σ (pc + 1) lv (v :: u :: v :: u :: st)) : WG E ad nL σ (pc) lv (v :: u :: st) := by
  obtain ⟨p, l, e, R, s, m, args, below, meth, c, Q, D, cy, A, kc, ks⟩ := E
  obtain ⟨hx, hb, hml, hown, hts, hK, hAp, hAA, hkc, hks, hfr, hlo⟩ := X
  intro hR H locs ls hP hS hl
  exact lv_dup2_11 hx hb hdg hv hu (k hR H locs ls hP hS hl)
theorem g_tin (X : Cx E ad cc nL own Ts fr lo) {z off dflt l0 h0 : Int} {offs : Array Int} {ln tgt : Nat} (hz : InR z) (hdg : decode cc pc = .ok (.tableswitch dflt l0 h0 offs, ln)) (h1 : l0 ≤ z) (h2 : z ≤ h0) (ho : offs[(z - l0).toNat]? = some off) (ht : (pc : Int) + off = (tgt : Int)) (k : WG E ad nL σ (tgt) lv (st)) : WG E ad nL σ (pc) lv (.int (iI z) :: st) := by
  obtain ⟨p, l, e, R, s, m, args, below, meth, c, Q, D, cy, A, kc, ks⟩ := E
  obtain ⟨hx, hb, hml, hown, hts, hK, hAp, hAA, hkc, hks, hfr, hlo⟩ := X
  intro hR H locs ls hP hS hl
  refine lv_tableIn (off := off) hx hb hdg ?_ ?_ ?_ ht (k hR H locs ls hP hS hl)
  · rw [iI_toInt hz]; omega
  · rw [iI_toInt hz]; omega
  · rw [iI_toInt hz]; exact ho
theorem g_tout (X : Cx E ad cc nL own Ts fr lo) {z dflt l0 h0 : Int} {offs : Array Int} {ln tgt : Nat} (hz : InR z) (hdg : decode cc pc = .ok (.tableswitch dflt l0 h0 offs, ln)) (h1 : z < l0 ∨ h0 < z) (ht : (pc : Int) + dflt = (tgt : Int)) (k : WG E ad nL σ (tgt) lv (st)) : WG E ad nL σ (pc) lv (.int (iI z) :: st) := by
  obtain ⟨p, l, e, R, s, m, args, below, meth, c, Q, D, cy, A, kc, ks⟩ := E
  obtain ⟨hx, hb, hml, hown, hts, hK, hAp, hAA, hkc, hks, hfr, hlo⟩ := X
  intro hR H locs ls hP hS hl
  refine lv_tableOut hx hb hdg ?_ ht (k hR H locs ls hP hS hl)
  rw [iI_toInt hz]
  exact h1
theorem g_look (X : Cx E ad cc nL own Ts fr lo) {z dflt off : Int} {ps : Array (Int × Int)} {ln tgt : Nat} (hz : InR z) (hdg : decode cc pc = .ok (.lookupswitch dflt ps, ln)) (hp : (ps.toList.zip (ps.toList.drop 1)).all (fun (a, next) => a.1 < next.1) = true) (ho : Op.lookupswitch.offset ps.toList dflt z = off) (ht : (pc : Int) + off = (tgt : Int)) (k : WG E ad nL σ (tgt) lv (st)) : WG E ad nL σ (pc) lv (.int (iI z) :: st) := by
  obtain ⟨p, l, e, R, s, m, args, below, meth, c, Q, D, cy, A, kc, ks⟩ := E
  obtain ⟨hx, hb, hml, hown, hts, hK, hAp, hAA, hkc, hks, hfr, hlo⟩ := X
  intro hR H locs ls hP hS hl
  refine lv_lookup hx hb hdg hp ?_ ht (k hR H locs ls hP hS hl)
  rw [iI_toInt hz]
  exact ho
end RULES
section HEAP
variable {E : EV} {ad : Int → Nat} {cc : ByteArray} {nL : Nat} {own : String} {Ts : List Cond} {fr lo : Nat} {σ : St} {pc : Nat} {lv : List (Option Value)} {st : List Value}
theorem g_get (X : Cx E ad cc nL own Ts fr lo) {C : String} {T : u_T} {N ci idx k : Nat} {q : Int} {fs : List Value} {v : Value} {ref : String} (hq : 0 ≤ q ∧ q < 82) (hc : ∀ cy, cel ad cy σ q = .inr (ci, fs)) (hcl : vwCl[ci]? = some (C, T, N)) (hin : ∀ w ∈ u_ws C T N, w ∈ Ts) (hk : k < N) (href : (T k).1 = ref) (hlink : Cond.fieldLink own idx ref (T k).2.1 (T k).2.2.1 ∈ Ts) (hv : fs[k]? = some v) (hdg : decode cc pc = .ok (.getfield idx, 3)) (kk : WG E ad nL σ (pc + 3) lv (v :: st)) : WG E ad nL σ pc lv (.ref (ad q) :: st) := by
  obtain ⟨p, l, e, R, s, m, args, below, meth, c, Q, D, cy, A, kc, ks⟩ := E
  obtain ⟨hx, hb, hml, hown, hts, hK, hAp, hAA, hkc, hks, hfr, hlo⟩ := X
  intro hR H locs ls hP hS hl
  subst href
  have h1 := gw_at (ad := ad) (cy := cy) (σ := σ) hq
  rw [hc] at h1
  exact va_get hx hb hts hin hown hK hP q.toNat h1 hcl k hk (hts _ hlink) (fun _ h9 => h9) hv hdg (kk hR H locs ls hP hS hl)
theorem g_put (X : Cx E ad cc nL own Ts fr lo) {C : String} {T : u_T} {N ci idx k : Nat} {q z : Int} {k' : Int} {fs : List Value} {ref : String} {ty0 : Nat → FieldType} (hq : 0 ≤ q ∧ q < 82) (hc : ∀ cy, cel ad cy σ q = .inr (ci, fs)) (hcl : vwCl[ci]? = some (C, T, N)) (hin : ∀ w ∈ u_ws C T N, w ∈ Ts) (hty : ∀ k, k < N → parseFieldDescriptor (T k).2.2.1 = some (ty0 k)) (hnm : ∀ a, a < N → ∀ b, b < N → a ≠ b → (T a).2.1 ≠ (T b).2.1) (hk : k < N) (href : (T k).1 = ref) (hlink : Cond.fieldLink own idx ref (T k).2.1 (T k).2.2.1 ∈ Ts) (hfin : (T k).2.2.2 = false) (hd : parseFieldDescriptor (T k).2.2.1 = some .int) (hl0 : k < fs.length) (hnew : ∀ cy, cel ad cy (up σ q k' z) q = .inr (ci, fs.set k (.int (iI z)))) (hz : InR z) (hdg : decode cc pc = .ok (.putfield idx, 3)) (kk : WG E ad nL (up σ q k' z) (pc + 3) lv st) : WG E ad nL σ pc lv (.int (iI z) :: .ref (ad q) :: st) := by
  obtain ⟨p, l, e, R, s, m, args, below, meth, c, Q, D, cy, A, kc, ks⟩ := E
  obtain ⟨hx, hb, hml, hown, hts, hK, hAp, hAA, hkc, hks, hfr, hlo⟩ := X
  intro hR H locs ls hP hS hl
  subst href
  have h1 := gw_at (ad := ad) (cy := cy) (σ := σ) hq
  rw [hc] at h1
  refine va_put hx hb hts hin ty0 hty hnm hown hK hP (gw_D hAp hAA) hS q.toNat h1 hcl k hk (hts _ hlink) (fun _ h9 => h9) hfin hd rfl rfl hl0 hdg (fun H1 locs1 hP1 _ hS1 => ?_)
  rw [← hnew cy, gw_set (σ' := up σ q k' z) hq (fun q' k9 h9 => by unfold up; rw [if_neg (fun e => h9 e.1)])] at hP1
  exact kk (rg_up hR hz) H1 locs1 ls hP1 hS1 hl
def IA (q i : Int) : Prop := (0 ≤ q ∧ q < 82) ∧ 0 ≤ i ∧ i < alen q
theorem alen_le (q : Int) : alen q ≤ 256 := by
  unfold alen
  repeat' split
  all_goals omega
theorem g_iald (X : Cx E ad cc nL own Ts fr lo) {q i : Int} (hi : IA q i) (hdg : decode cc pc = .ok (.iaload, 1)) (kk : WG E ad nL σ (pc + 1) lv (.int (iI (σ q i)) :: st)) : WG E ad nL σ pc lv (.int (iI i) :: .ref (ad q) :: st) := by
  obtain ⟨p, l, e, R, s, m, args, below, meth, c, Q, D, cy, A, kc, ks⟩ := E
  obtain ⟨hx, hb, hml, hown, hts, hK, hAp, hAA, hkc, hks, hfr, hlo⟩ := X
  intro hR H locs ls hP hS hl
  obtain ⟨hq, h0, h1⟩ := hi
  have h8 := alen_le q
  have hir : InR i := ⟨by omega, by omega⟩
  have h2 := gw_at (ad := ad) (cy := cy) (σ := σ) hq
  rw [cel_I (by omega)] at h2
  refine va_iald hx hb hK hP q.toNat 0 h2 rfl (iI_vp h0 (by omega) hir) hdg ?_
  rw [iI_clamp h0 hir, Int.toNat_of_nonneg h0]
  exact kk hR H locs ls hP hS hl
theorem g_iast (X : Cx E ad cc nL own Ts fr lo) {q i z : Int} (hi : IA q i) (hz : InR z) (hdg : decode cc pc = .ok (.iastore, 1)) (kk : WG E ad nL (up σ q i z) (pc + 1) lv st) : WG E ad nL σ pc lv (.int (iI z) :: .int (iI i) :: .ref (ad q) :: st) := by
  obtain ⟨p, l, e, R, s, m, args, below, meth, c, Q, D, cy, A, kc, ks⟩ := E
  obtain ⟨hx, hb, hml, hown, hts, hK, hAp, hAA, hkc, hks, hfr, hlo⟩ := X
  intro hR H locs ls hP hS hl
  obtain ⟨hq, h0, h1⟩ := hi
  have h8 := alen_le q
  have hir : InR i := ⟨by omega, by omega⟩
  have h2 := gw_at (ad := ad) (cy := cy) (σ := σ) hq
  rw [cel_I (by omega)] at h2
  refine va_iast hx hb hK hP (gw_D hAp hAA) hS q.toNat 0 h2 rfl (iI_vp h0 (by omega) hir) hdg (fun H1 locs1 hP1 _ hS1 => ?_)
  have e : (Sum.inl (cy.1, (alen q).toNat, Sum.inl (upd (fun k : Nat => iI (σ q k)) (iI i).toNatClampNeg (iI z))) : va_E) = cel ad cy (up σ q i z) q := by
    rw [cel_I (by omega), iI_clamp h0 hir]
    refine congrArg (fun f => (Sum.inl (cy.1, (alen q).toNat, Sum.inl f) : va_E)) (funext fun j => ?_)
    unfold upd up
    by_cases hj : j = i.toNat
    · rw [if_pos hj, if_pos ⟨rfl, by omega⟩]
    · rw [if_neg hj, if_neg (fun e => hj (by omega))]
  rw [e, gw_set (σ' := up σ q i z) hq (fun q' k9 h9 => by unfold up; rw [if_neg (fun e => h9 e.1)])] at hP1
  exact kk (rg_up hR hz) H1 locs1 ls hP1 hS1 hl
theorem g_cald (X : Cx E ad cc nL own Ts fr lo) {i : Int} (hi : 0 ≤ i ∧ i < 80) (hdg : decode cc pc = .ok (.caload, 1)) (kk : WG E ad nL σ (pc + 1) lv (.int (iI (σ 9 i)) :: st)) : WG E ad nL σ pc lv (.int (iI i) :: .ref (ad 9) :: st) := by
  obtain ⟨p, l, e, R, s, m, args, below, meth, c, Q, D, cy, A, kc, ks⟩ := E
  obtain ⟨hx, hb, hml, hown, hts, hK, hAp, hAA, hkc, hks, hfr, hlo⟩ := X
  intro hR H locs ls hP hS hl
  have hir : InR i := ⟨by omega, by omega⟩
  have h2 := gw_at (ad := ad) (cy := cy) (σ := σ) (q := 9) ⟨by omega, by omega⟩
  rw [cel_9] at h2
  refine va_cald hx hb hK hP _ 1 h2 rfl (iI_vp hi.1 (by omega) hir) hdg ?_
  rw [iI_clamp hi.1 hir, Int.toNat_of_nonneg hi.1]
  exact kk hR H locs ls hP hS hl
theorem g_cast (X : Cx E ad cc nL own Ts fr lo) {i z : Int} (hi : 0 ≤ i ∧ i < 80) (hz : 0 ≤ z ∧ z < 65536) (hdg : decode cc pc = .ok (.castore, 1)) (kk : WG E ad nL (up σ 9 i z) (pc + 1) lv st) : WG E ad nL σ pc lv (.int (iI z) :: .int (iI i) :: .ref (ad 9) :: st) := by
  obtain ⟨p, l, e, R, s, m, args, below, meth, c, Q, D, cy, A, kc, ks⟩ := E
  obtain ⟨hx, hb, hml, hown, hts, hK, hAp, hAA, hkc, hks, hfr, hlo⟩ := X
  intro hR H locs ls hP hS hl
  have hir : InR i := ⟨by omega, by omega⟩
  have hzr : InR z := ⟨by omega, by omega⟩
  have h2 := gw_at (ad := ad) (cy := cy) (σ := σ) (q := 9) ⟨by omega, by omega⟩
  rw [cel_9] at h2
  refine va_cast hx hb hK hP (gw_D hAp hAA) hS _ 1 h2 rfl (iI_vp hi.1 (by omega) hir) hdg (fun H1 locs1 hP1 _ hS1 => ?_)
  have e : (Sum.inl (cy.2.1, 80, Sum.inl (upd (fun k : Nat => iI (σ 9 k)) (iI i).toNatClampNeg (vp_nar .char (iI z)))) : va_E) = cel ad cy (up σ 9 i z) 9 := by
    rw [cel_9, iI_clamp hi.1 hir, vp_nar_char]
    have e2 : (iI z).toUInt32.toUInt16.toUInt32.toInt32 = iI z := by
      rw [← lg_i2c_nf]
      exact lg_i2c_word (by rw [iI_toInt hzr]; exact hz.1) (by rw [iI_toInt hzr]; exact hz.2)
    rw [e2]
    refine congrArg (fun f => (Sum.inl (cy.2.1, 80, Sum.inl f) : va_E)) (funext fun j => ?_)
    unfold upd up
    by_cases hj : j = i.toNat
    · rw [if_pos hj, if_pos ⟨rfl, by omega⟩]
    · rw [if_neg hj, if_neg (fun e => hj (by omega))]
  rw [e, gw_set (σ' := up σ 9 i z) ⟨by omega, by omega⟩ (fun q' k9 h9 => by unfold up; rw [if_neg (fun e => h9 e.1)])] at hP1
  exact kk (rg_up hR hzr) H1 locs1 ls hP1 hS1 hl
theorem g_aald (X : Cx E ad cc nL own Ts fr lo) {q i : Int} {n t0 : Nat} {f : Nat → Nat} {ty : FieldType} {cA : CY → ClassId} (hq : 0 ≤ q ∧ q < 82) (hc : ∀ cy, cel ad cy σ q = .inl (cA cy, n, .inr (.inr (.inr (.inr (fun k => some (f k))))))) (ht : ∀ cy, (tysOf cy)[t0]? = some (cA cy, ty)) (hty : ty.isReference = true) (hn : n ≤ 8) (hi : 0 ≤ i ∧ i < n) (hdg : decode cc pc = .ok (.aaload, 1)) (kk : WG E ad nL σ (pc + 1) lv (.ref (f i.toNat) :: st)) : WG E ad nL σ pc lv (.int (iI i) :: .ref (ad q) :: st) := by
  obtain ⟨p, l, e, R, s, m, args, below, meth, c, Q, D, cy, A, kc, ks⟩ := E
  obtain ⟨hx, hb, hml, hown, hts, hK, hAp, hAA, hkc, hks, hfr, hlo⟩ := X
  intro hR H locs ls hP hS hl
  have hir : InR i := ⟨by omega, by omega⟩
  have h2 := gw_at (ad := ad) (cy := cy) (σ := σ) hq
  rw [hc] at h2
  have hin := iI_vp (n := n) hi.1 hi.2 hir
  refine W.aald (v := .ref (f i.toNat)) (ty := ty) hx hb (hP q.toNat _ h2) ((hK.2 t0 _ (ht cy)).1 n (fun j => va_rf (some (f j)))) hty (fun q => by cases q) (by show ¬ (iI i < 0 ∨ (arrV _ _ _).slots.size ≤ _); rw [arrV_size]; exact hin) ?_ rfl rfl hdg (kk hR H locs ls hP hS hl)
  show (arrV _ _ _).slots[_]? = _
  rw [iI_clamp hi.1 hir, arrV_read _ _ (show i.toNat < n by omega)]
  rfl
theorem g_aald_TC (X : Cx E ad cc nL own Ts fr lo) {t i : Int} (ht : 0 ≤ t ∧ t < 6) (hi : 0 ≤ i ∧ i < 7) (hdg : decode cc pc = .ok (.aaload, 1)) (kk : WG E ad nL σ (pc + 1) lv (.ref (ad (TR t i)) :: st)) : WG E ad nL σ pc lv (.int (iI i) :: .ref (ad (TC t)) :: st) :=
  g_aald X (q := TC t) (n := 7) (t0 := 3) (f := fun k => ad (TR t k)) (cA := fun cy => cy.2.2.2) (by unfold TC; omega) (fun cy => cel_TC ht) (fun cy => rfl) rfl (by omega) hi hdg (by
    show WG E ad nL σ (pc + 1) lv (.ref (ad (TR t (i.toNat : Int))) :: st)
    rw [Int.toNat_of_nonneg hi.1]
    exact kk)
theorem g_aald_5 (X : Cx E ad cc nL own Ts fr lo) {i : Int} (hi : 0 ≤ i ∧ i < 8) (hdg : decode cc pc = .ok (.aaload, 1)) (kk : WG E ad nL σ (pc + 1) lv (.ref (ad (LR i)) :: st)) : WG E ad nL σ pc lv (.int (iI i) :: .ref (ad 5) :: st) :=
  g_aald X (q := 5) (n := 8) (t0 := 3) (f := fun k => ad (LR k)) (cA := fun cy => cy.2.2.2) (by omega) (fun cy => cel_5) (fun cy => rfl) rfl (by omega) hi hdg (by
    show WG E ad nL σ (pc + 1) lv (.ref (ad (LR (i.toNat : Int))) :: st)
    rw [Int.toNat_of_nonneg hi.1]
    exact kk)
theorem g_aald_2 (X : Cx E ad cc nL own Ts fr lo) {i : Int} (hi : 0 ≤ i ∧ i < 4) (hdg : decode cc pc = .ok (.aaload, 1)) (kk : WG E ad nL σ (pc + 1) lv (.ref (ad (TB (σ 2 i))) :: st)) : WG E ad nL σ pc lv (.int (iI i) :: .ref (ad 2) :: st) :=
  g_aald X (q := 2) (n := 4) (t0 := 2) (f := fun k => ad (TB (σ 2 k))) (cA := fun cy => cy.2.2.1) (by omega) (fun cy => cel_2) (fun cy => rfl) rfl (by omega) hi hdg (by
    show WG E ad nL σ (pc + 1) lv (.ref (ad (TB (σ 2 (i.toNat : Int)))) :: st)
    rw [Int.toNat_of_nonneg hi.1]
    exact kk)
theorem g_aast_2 (X : Cx E ad cc nL own Ts fr lo) {i t : Int} (hi : 0 ≤ i ∧ i < 4) (ht : 0 ≤ t ∧ t < 6) (hdg : decode cc pc = .ok (.aastore, 1)) (kk : WG E ad nL (up σ 2 i t) (pc + 1) lv st) : WG E ad nL σ pc lv (.ref (ad (TB t)) :: .int (iI i) :: .ref (ad 2) :: st) := by
  obtain ⟨p, l, e, R, s, m, args, below, meth, c, Q, D, cy, A, kc, ks⟩ := E
  obtain ⟨hx, hb, hml, hown, hts, hK, hAp, hAA, hkc, hks, hfr, hlo⟩ := X
  intro hR H locs ls hP hS hl
  have hir : InR i := ⟨by omega, by omega⟩
  have h2 := gw_at (ad := ad) (cy := cy) (σ := σ) (q := 2) ⟨by omega, by omega⟩
  rw [cel_2] at h2
  have h3 := gw_at (ad := ad) (cy := cy) (σ := σ) (q := TB t) (by unfold TB; omega)
  rw [cel_TB ht] at h3
  refine va_astq hx hb hK hP (gw_D hAp hAA) hS _ 2 _ 4 (r := (RX4, TX4, 4)) h2 rfl h3 rfl (iI_vp hi.1 (by omega) hir) hdg (fun H1 locs1 hP1 _ hS1 => ?_)
  have e : (Sum.inl (cy.2.2.1, 4, Sum.inr (Sum.inr (Sum.inr (Sum.inr (va_up (fun k : Nat => some (ad (TB (σ 2 k)))) (iI i).toNatClampNeg (some (ad (TB t)))))))) : va_E) = cel ad cy (up σ 2 i t) 2 := by
    rw [cel_2, iI_clamp hi.1 hir]
    refine congrArg (fun f => (Sum.inl (cy.2.2.1, 4, Sum.inr (Sum.inr (Sum.inr (Sum.inr f)))) : va_E)) (funext fun j => ?_)
    unfold va_up up
    by_cases hj : j = i.toNat
    · rw [if_pos hj, if_pos ⟨rfl, by omega⟩]
    · rw [if_neg hj, if_neg (fun e => hj (by omega))]
  rw [e, gw_set (σ' := up σ 2 i t) ⟨by omega, by omega⟩ (fun q' k9 h9 => by unfold up; rw [if_neg (fun e => h9 e.1)])] at hP1
  exact kk (rg_up hR ⟨by omega, by omega⟩) H1 locs1 ls hP1 hS1 hl
theorem ia_TR {t r i : Int} (ht : 0 ≤ t ∧ t < 6) (hr : 0 ≤ r ∧ r < 7) (hi : 0 ≤ i ∧ i < 7) : IA (TR t r) i := by
  refine ⟨by unfold TR; omega, hi.1, ?_⟩
  have e : alen (TR t r) = 7 := by
    unfold alen TR
    rw [if_neg (by omega), if_pos (by omega), if_neg (by omega)]
  omega
theorem ia_TI {t i : Int} (ht : 0 ≤ t ∧ t < 6) (hi : 0 ≤ i ∧ i < 7) : IA (TI t) i := by
  refine ⟨by unfold TI; omega, hi.1, ?_⟩
  have e : alen (TI t) = 7 := by
    unfold alen TI
    rw [if_neg (by omega), if_pos (by omega), if_neg (by omega)]
  omega
theorem ia_LR {w i : Int} (hw : 0 ≤ w ∧ w < 8) (hi : 0 ≤ i ∧ i < 128) : IA (LR w) i := by
  refine ⟨by unfold LR; omega, hi.1, ?_⟩
  have e : alen (LR w) = 128 := by
    unfold alen LR
    rw [if_neg (by omega), if_neg (by omega), if_pos (by omega)]
  omega
theorem ia_4 {i : Int} (hi : 0 ≤ i ∧ i < 7) : IA 4 i := ⟨by omega, hi.1, by rw [show alen 4 = 7 from rfl]; exact hi.2⟩
theorem ia_7 {i : Int} (hi : 0 ≤ i ∧ i < 7) : IA 7 i := ⟨by omega, hi.1, by rw [show alen 7 = 7 from rfl]; exact hi.2⟩
theorem ia_79 {i : Int} (hi : 0 ≤ i ∧ i < 2) : IA 79 i := ⟨by omega, hi.1, by rw [show alen 79 = 2 from rfl]; exact hi.2⟩
theorem ia_80 {i : Int} (hi : 0 ≤ i ∧ i < 49) : IA 80 i := ⟨by omega, hi.1, by rw [show alen 80 = 49 from rfl]; exact hi.2⟩
theorem ia_81 {i : Int} (hi : 0 ≤ i ∧ i < 7) : IA 81 i := ⟨by omega, hi.1, by rw [show alen 81 = 7 from rfl]; exact hi.2⟩
theorem gf_0_size (X : Cx E ad cc nL own Ts fr lo) {idx : Nat} (hin : ∀ w ∈ wsX00, w ∈ Ts) (hlink : Cond.fieldLink own idx "PricedPairs$History" "size" "I" ∈ Ts) (hdg : decode cc pc = .ok (.getfield idx, 3)) (kk : WG E ad nL σ (pc + 3) lv (.int (iI (σ 1 0)) :: st)) : WG E ad nL σ pc lv (.ref (ad 1) :: st) :=
  g_get X (C := RX0) (T := TX0) (N := 2) (ci := 0) (k := 0) (by omega) (fun cy => cel_1) rfl hin (by decide) rfl hlink rfl hdg kk
theorem gp_0_size (X : Cx E ad cc nL own Ts fr lo) {idx : Nat} {z : Int} (hin : ∀ w ∈ wsX00, w ∈ Ts) (hlink : Cond.fieldLink own idx "PricedPairs$History" "size" "I" ∈ Ts) (hz : InR z) (hdg : decode cc pc = .ok (.putfield idx, 3)) (kk : WG E ad nL (up σ 1 0 z) (pc + 3) lv st) : WG E ad nL σ pc lv (.int (iI z) :: .ref (ad 1) :: st) :=
  g_put X (C := RX0) (T := TX0) (N := 2) (ci := 0) (k := 0) (ty0 := tyX0) (by omega) (fun cy => cel_1) rfl hin tyX0_ok nmX0 (by decide) rfl hlink rfl (by decide +kernel) (Nat.le_of_ble_eq_true rfl) (fun cy => by rw [cel_1]; simp [up]) hz hdg kk
theorem gf_0_states (X : Cx E ad cc nL own Ts fr lo) {idx : Nat} (hin : ∀ w ∈ wsX00, w ∈ Ts) (hlink : Cond.fieldLink own idx "PricedPairs$History" "states" "[LPricedPairs$Table;" ∈ Ts) (hdg : decode cc pc = .ok (.getfield idx, 3)) (kk : WG E ad nL σ (pc + 3) lv (.ref (ad 2) :: st)) : WG E ad nL σ pc lv (.ref (ad 1) :: st) :=
  g_get X (C := RX0) (T := TX0) (N := 2) (ci := 0) (k := 1) (by omega) (fun cy => cel_1) rfl hin (by decide) rfl hlink rfl hdg kk
theorem gf_1_chosen (X : Cx E ad cc nL own Ts fr lo) {idx : Nat} (hin : ∀ w ∈ wsX10, w ∈ Ts) (hlink : Cond.fieldLink own idx "PricedPairs$Plans" "chosen" "[I" ∈ Ts) (hdg : decode cc pc = .ok (.getfield idx, 3)) (kk : WG E ad nL σ (pc + 3) lv (.ref (ad 4) :: st)) : WG E ad nL σ pc lv (.ref (ad 3) :: st) :=
  g_get X (C := RX1) (T := TX1) (N := 4) (ci := 1) (k := 0) (by omega) (fun cy => cel_3) rfl hin (by decide) rfl hlink rfl hdg kk
theorem gf_1_chosenTotal (X : Cx E ad cc nL own Ts fr lo) {idx : Nat} (hin : ∀ w ∈ wsX10, w ∈ Ts) (hlink : Cond.fieldLink own idx "PricedPairs$Plans" "chosenTotal" "I" ∈ Ts) (hdg : decode cc pc = .ok (.getfield idx, 3)) (kk : WG E ad nL σ (pc + 3) lv (.int (iI (σ 3 1)) :: st)) : WG E ad nL σ pc lv (.ref (ad 3) :: st) :=
  g_get X (C := RX1) (T := TX1) (N := 4) (ci := 1) (k := 1) (by omega) (fun cy => cel_3) rfl hin (by decide) rfl hlink rfl hdg kk
theorem gp_1_chosenTotal (X : Cx E ad cc nL own Ts fr lo) {idx : Nat} {z : Int} (hin : ∀ w ∈ wsX10, w ∈ Ts) (hlink : Cond.fieldLink own idx "PricedPairs$Plans" "chosenTotal" "I" ∈ Ts) (hz : InR z) (hdg : decode cc pc = .ok (.putfield idx, 3)) (kk : WG E ad nL (up σ 3 1 z) (pc + 3) lv st) : WG E ad nL σ pc lv (.int (iI z) :: .ref (ad 3) :: st) :=
  g_put X (C := RX1) (T := TX1) (N := 4) (ci := 1) (k := 1) (ty0 := tyX1) (by omega) (fun cy => cel_3) rfl hin tyX1_ok nmX1 (by decide) rfl hlink rfl (by decide +kernel) (Nat.le_of_ble_eq_true rfl) (fun cy => by rw [cel_3]; simp [up]) hz hdg kk
theorem gf_1_table (X : Cx E ad cc nL own Ts fr lo) {idx : Nat} (hin : ∀ w ∈ wsX10, w ∈ Ts) (hlink : Cond.fieldLink own idx "PricedPairs$Plans" "table" "LPricedPairs$Table;" ∈ Ts) (hdg : decode cc pc = .ok (.getfield idx, 3)) (kk : WG E ad nL σ (pc + 3) lv (.ref (ad (TB 0)) :: st)) : WG E ad nL σ pc lv (.ref (ad 3) :: st) :=
  g_get X (C := RX1) (T := TX1) (N := 4) (ci := 1) (k := 2) (by omega) (fun cy => cel_3) rfl hin (by decide) rfl hlink rfl hdg kk
theorem gf_1_least (X : Cx E ad cc nL own Ts fr lo) {idx : Nat} (hin : ∀ w ∈ wsX10, w ∈ Ts) (hlink : Cond.fieldLink own idx "PricedPairs$Plans" "least" "[[I" ∈ Ts) (hdg : decode cc pc = .ok (.getfield idx, 3)) (kk : WG E ad nL σ (pc + 3) lv (.ref (ad 5) :: st)) : WG E ad nL σ pc lv (.ref (ad 3) :: st) :=
  g_get X (C := RX1) (T := TX1) (N := 4) (ci := 1) (k := 3) (by omega) (fun cy => cel_3) rfl hin (by decide) rfl hlink rfl hdg kk
theorem gf_2_least (X : Cx E ad cc nL own Ts fr lo) {idx : Nat} (hin : ∀ w ∈ wsX20, w ∈ Ts) (hlink : Cond.fieldLink own idx "PricedPairs$Prices" "least" "[I" ∈ Ts) (hdg : decode cc pc = .ok (.getfield idx, 3)) (kk : WG E ad nL σ (pc + 3) lv (.ref (ad 7) :: st)) : WG E ad nL σ pc lv (.ref (ad 6) :: st) :=
  g_get X (C := RX2) (T := TX2) (N := 3) (ci := 2) (k := 0) (by omega) (fun cy => cel_6) rfl hin (by decide) rfl hlink rfl hdg kk
theorem gf_2_table (X : Cx E ad cc nL own Ts fr lo) {idx : Nat} (hin : ∀ w ∈ wsX20, w ∈ Ts) (hlink : Cond.fieldLink own idx "PricedPairs$Prices" "table" "LPricedPairs$Table;" ∈ Ts) (hdg : decode cc pc = .ok (.getfield idx, 3)) (kk : WG E ad nL σ (pc + 3) lv (.ref (ad (TB 0)) :: st)) : WG E ad nL σ pc lv (.ref (ad 6) :: st) :=
  g_get X (C := RX2) (T := TX2) (N := 3) (ci := 2) (k := 1) (by omega) (fun cy => cel_6) rfl hin (by decide) rfl hlink rfl hdg kk
theorem gf_2_plans (X : Cx E ad cc nL own Ts fr lo) {idx : Nat} (hin : ∀ w ∈ wsX20, w ∈ Ts) (hlink : Cond.fieldLink own idx "PricedPairs$Prices" "plans" "LPricedPairs$Plans;" ∈ Ts) (hdg : decode cc pc = .ok (.getfield idx, 3)) (kk : WG E ad nL σ (pc + 3) lv (.ref (ad 3) :: st)) : WG E ad nL σ pc lv (.ref (ad 6) :: st) :=
  g_get X (C := RX2) (T := TX2) (N := 3) (ci := 2) (k := 2) (by omega) (fun cy => cel_6) rfl hin (by decide) rfl hlink rfl hdg kk
theorem gf_3_place (X : Cx E ad cc nL own Ts fr lo) {idx : Nat} (hin : ∀ w ∈ wsX30, w ∈ Ts) (hlink : Cond.fieldLink own idx "PricedPairs$Reader" "place" "I" ∈ Ts) (hdg : decode cc pc = .ok (.getfield idx, 3)) (kk : WG E ad nL σ (pc + 3) lv (.int (iI (σ 10 0)) :: st)) : WG E ad nL σ pc lv (.ref (ad 10) :: st) :=
  g_get X (C := RX3) (T := TX3) (N := 4) (ci := 3) (k := 0) (by omega) (fun cy => cel_10) rfl hin (by decide) rfl hlink rfl hdg kk
theorem gp_3_place (X : Cx E ad cc nL own Ts fr lo) {idx : Nat} {z : Int} (hin : ∀ w ∈ wsX30, w ∈ Ts) (hlink : Cond.fieldLink own idx "PricedPairs$Reader" "place" "I" ∈ Ts) (hz : InR z) (hdg : decode cc pc = .ok (.putfield idx, 3)) (kk : WG E ad nL (up σ 10 0 z) (pc + 3) lv st) : WG E ad nL σ pc lv (.int (iI z) :: .ref (ad 10) :: st) :=
  g_put X (C := RX3) (T := TX3) (N := 4) (ci := 3) (k := 0) (ty0 := tyX3) (by omega) (fun cy => cel_10) rfl hin tyX3_ok nmX3 (by decide) rfl hlink rfl (by decide +kernel) (Nat.le_of_ble_eq_true rfl) (fun cy => by rw [cel_10]; simp [up]) hz hdg kk
theorem gf_3_reason (X : Cx E ad cc nL own Ts fr lo) {idx : Nat} (hin : ∀ w ∈ wsX30, w ∈ Ts) (hlink : Cond.fieldLink own idx "PricedPairs$Reader" "reason" "I" ∈ Ts) (hdg : decode cc pc = .ok (.getfield idx, 3)) (kk : WG E ad nL σ (pc + 3) lv (.int (iI (σ 10 1)) :: st)) : WG E ad nL σ pc lv (.ref (ad 10) :: st) :=
  g_get X (C := RX3) (T := TX3) (N := 4) (ci := 3) (k := 1) (by omega) (fun cy => cel_10) rfl hin (by decide) rfl hlink rfl hdg kk
theorem gp_3_reason (X : Cx E ad cc nL own Ts fr lo) {idx : Nat} {z : Int} (hin : ∀ w ∈ wsX30, w ∈ Ts) (hlink : Cond.fieldLink own idx "PricedPairs$Reader" "reason" "I" ∈ Ts) (hz : InR z) (hdg : decode cc pc = .ok (.putfield idx, 3)) (kk : WG E ad nL (up σ 10 1 z) (pc + 3) lv st) : WG E ad nL σ pc lv (.int (iI z) :: .ref (ad 10) :: st) :=
  g_put X (C := RX3) (T := TX3) (N := 4) (ci := 3) (k := 1) (ty0 := tyX3) (by omega) (fun cy => cel_10) rfl hin tyX3_ok nmX3 (by decide) rfl hlink rfl (by decide +kernel) (Nat.le_of_ble_eq_true rfl) (fun cy => by rw [cel_10]; simp [up]) hz hdg kk
theorem gf_3_found (X : Cx E ad cc nL own Ts fr lo) {idx : Nat} (hin : ∀ w ∈ wsX30, w ∈ Ts) (hlink : Cond.fieldLink own idx "PricedPairs$Reader" "found" "LPricedPairs$Table;" ∈ Ts) (hdg : decode cc pc = .ok (.getfield idx, 3)) (kk : WG E ad nL σ (pc + 3) lv (.ref (ad (TB 5)) :: st)) : WG E ad nL σ pc lv (.ref (ad 10) :: st) :=
  g_get X (C := RX3) (T := TX3) (N := 4) (ci := 3) (k := 2) (by omega) (fun cy => cel_10) rfl hin (by decide) rfl hlink rfl hdg kk
theorem gf_3_text (X : Cx E ad cc nL own Ts fr lo) {idx : Nat} (hin : ∀ w ∈ wsX30, w ∈ Ts) (hlink : Cond.fieldLink own idx "PricedPairs$Reader" "text" "LPricedPairs$Text;" ∈ Ts) (hdg : decode cc pc = .ok (.getfield idx, 3)) (kk : WG E ad nL σ (pc + 3) lv (.ref (ad 8) :: st)) : WG E ad nL σ pc lv (.ref (ad 10) :: st) :=
  g_get X (C := RX3) (T := TX3) (N := 4) (ci := 3) (k := 3) (by omega) (fun cy => cel_10) rfl hin (by decide) rfl hlink rfl hdg kk
theorem gf_4_workers (X : Cx E ad cc nL own Ts fr lo) {t : Int} (ht : 0 ≤ t ∧ t < 6) {idx : Nat} (hin : ∀ w ∈ wsX40, w ∈ Ts) (hlink : Cond.fieldLink own idx "PricedPairs$Table" "workers" "I" ∈ Ts) (hdg : decode cc pc = .ok (.getfield idx, 3)) (kk : WG E ad nL σ (pc + 3) lv (.int (iI (σ (TB t) 0)) :: st)) : WG E ad nL σ pc lv (.ref (ad (TB t)) :: st) :=
  g_get X (C := RX4) (T := TX4) (N := 4) (ci := 4) (k := 0) (by unfold TB; omega) (fun cy => cel_TB ht) rfl hin (by decide) rfl hlink rfl hdg kk
theorem gp_4_workers (X : Cx E ad cc nL own Ts fr lo) {t : Int} (ht : 0 ≤ t ∧ t < 6) {idx : Nat} {z : Int} (hin : ∀ w ∈ wsX40, w ∈ Ts) (hlink : Cond.fieldLink own idx "PricedPairs$Table" "workers" "I" ∈ Ts) (hz : InR z) (hdg : decode cc pc = .ok (.putfield idx, 3)) (kk : WG E ad nL (up σ (TB t) 0 z) (pc + 3) lv st) : WG E ad nL σ pc lv (.int (iI z) :: .ref (ad (TB t)) :: st) :=
  g_put X (C := RX4) (T := TX4) (N := 4) (ci := 4) (k := 0) (ty0 := tyX4) (by unfold TB; omega) (fun cy => cel_TB ht) rfl hin tyX4_ok nmX4 (by decide) rfl hlink rfl (by decide +kernel) (Nat.le_of_ble_eq_true rfl) (fun cy => by rw [cel_TB ht]; simp [up]) hz hdg kk
theorem gf_4_tasks (X : Cx E ad cc nL own Ts fr lo) {t : Int} (ht : 0 ≤ t ∧ t < 6) {idx : Nat} (hin : ∀ w ∈ wsX40, w ∈ Ts) (hlink : Cond.fieldLink own idx "PricedPairs$Table" "tasks" "I" ∈ Ts) (hdg : decode cc pc = .ok (.getfield idx, 3)) (kk : WG E ad nL σ (pc + 3) lv (.int (iI (σ (TB t) 1)) :: st)) : WG E ad nL σ pc lv (.ref (ad (TB t)) :: st) :=
  g_get X (C := RX4) (T := TX4) (N := 4) (ci := 4) (k := 1) (by unfold TB; omega) (fun cy => cel_TB ht) rfl hin (by decide) rfl hlink rfl hdg kk
theorem gp_4_tasks (X : Cx E ad cc nL own Ts fr lo) {t : Int} (ht : 0 ≤ t ∧ t < 6) {idx : Nat} {z : Int} (hin : ∀ w ∈ wsX40, w ∈ Ts) (hlink : Cond.fieldLink own idx "PricedPairs$Table" "tasks" "I" ∈ Ts) (hz : InR z) (hdg : decode cc pc = .ok (.putfield idx, 3)) (kk : WG E ad nL (up σ (TB t) 1 z) (pc + 3) lv st) : WG E ad nL σ pc lv (.int (iI z) :: .ref (ad (TB t)) :: st) :=
  g_put X (C := RX4) (T := TX4) (N := 4) (ci := 4) (k := 1) (ty0 := tyX4) (by unfold TB; omega) (fun cy => cel_TB ht) rfl hin tyX4_ok nmX4 (by decide) rfl hlink rfl (by decide +kernel) (Nat.le_of_ble_eq_true rfl) (fun cy => by rw [cel_TB ht]; simp [up]) hz hdg kk
theorem gf_4_idleCosts (X : Cx E ad cc nL own Ts fr lo) {t : Int} (ht : 0 ≤ t ∧ t < 6) {idx : Nat} (hin : ∀ w ∈ wsX40, w ∈ Ts) (hlink : Cond.fieldLink own idx "PricedPairs$Table" "idleCosts" "[I" ∈ Ts) (hdg : decode cc pc = .ok (.getfield idx, 3)) (kk : WG E ad nL σ (pc + 3) lv (.ref (ad (TI t)) :: st)) : WG E ad nL σ pc lv (.ref (ad (TB t)) :: st) :=
  g_get X (C := RX4) (T := TX4) (N := 4) (ci := 4) (k := 2) (by unfold TB; omega) (fun cy => cel_TB ht) rfl hin (by decide) rfl hlink rfl hdg kk
theorem gf_4_costs (X : Cx E ad cc nL own Ts fr lo) {t : Int} (ht : 0 ≤ t ∧ t < 6) {idx : Nat} (hin : ∀ w ∈ wsX40, w ∈ Ts) (hlink : Cond.fieldLink own idx "PricedPairs$Table" "costs" "[[I" ∈ Ts) (hdg : decode cc pc = .ok (.getfield idx, 3)) (kk : WG E ad nL σ (pc + 3) lv (.ref (ad (TC t)) :: st)) : WG E ad nL σ pc lv (.ref (ad (TB t)) :: st) :=
  g_get X (C := RX4) (T := TX4) (N := 4) (ci := 4) (k := 3) (by unfold TB; omega) (fun cy => cel_TB ht) rfl hin (by decide) rfl hlink rfl hdg kk
theorem gf_5_length (X : Cx E ad cc nL own Ts fr lo) {idx : Nat} (hin : ∀ w ∈ wsX50, w ∈ Ts) (hlink : Cond.fieldLink own idx "PricedPairs$Text" "length" "I" ∈ Ts) (hdg : decode cc pc = .ok (.getfield idx, 3)) (kk : WG E ad nL σ (pc + 3) lv (.int (iI (σ 8 0)) :: st)) : WG E ad nL σ pc lv (.ref (ad 8) :: st) :=
  g_get X (C := RX5) (T := TX5) (N := 2) (ci := 5) (k := 0) (by omega) (fun cy => cel_8) rfl hin (by decide) rfl hlink rfl hdg kk
theorem gp_5_length (X : Cx E ad cc nL own Ts fr lo) {idx : Nat} {z : Int} (hin : ∀ w ∈ wsX50, w ∈ Ts) (hlink : Cond.fieldLink own idx "PricedPairs$Text" "length" "I" ∈ Ts) (hz : InR z) (hdg : decode cc pc = .ok (.putfield idx, 3)) (kk : WG E ad nL (up σ 8 0 z) (pc + 3) lv st) : WG E ad nL σ pc lv (.int (iI z) :: .ref (ad 8) :: st) :=
  g_put X (C := RX5) (T := TX5) (N := 2) (ci := 5) (k := 0) (ty0 := tyX5) (by omega) (fun cy => cel_8) rfl hin tyX5_ok nmX5 (by decide) rfl hlink rfl (by decide +kernel) (Nat.le_of_ble_eq_true rfl) (fun cy => by rw [cel_8]; simp [up]) hz hdg kk
theorem gf_5_signs (X : Cx E ad cc nL own Ts fr lo) {idx : Nat} (hin : ∀ w ∈ wsX50, w ∈ Ts) (hlink : Cond.fieldLink own idx "PricedPairs$Text" "signs" "[C" ∈ Ts) (hdg : decode cc pc = .ok (.getfield idx, 3)) (kk : WG E ad nL σ (pc + 3) lv (.ref (ad 9) :: st)) : WG E ad nL σ pc lv (.ref (ad 8) :: st) :=
  g_get X (C := RX5) (T := TX5) (N := 2) (ci := 5) (k := 1) (by omega) (fun cy => cel_8) rfl hin (by decide) rfl hlink rfl hdg kk
theorem gf_6_table (X : Cx E ad cc nL own Ts fr lo) {idx : Nat} (hin : ∀ w ∈ wsX60, w ∈ Ts) (hlink : Cond.fieldLink own idx "PricedPairs" "table" "LPricedPairs$Table;" ∈ Ts) (hdg : decode cc pc = .ok (.getfield idx, 3)) (kk : WG E ad nL σ (pc + 3) lv (.ref (ad (TB 0)) :: st)) : WG E ad nL σ pc lv (.ref (ad 0) :: st) :=
  g_get X (C := RX6) (T := TX6) (N := 6) (ci := 6) (k := 0) (by omega) (fun cy => cel_0) rfl hin (by decide) rfl hlink rfl hdg kk
theorem gf_6_history (X : Cx E ad cc nL own Ts fr lo) {idx : Nat} (hin : ∀ w ∈ wsX60, w ∈ Ts) (hlink : Cond.fieldLink own idx "PricedPairs" "history" "LPricedPairs$History;" ∈ Ts) (hdg : decode cc pc = .ok (.getfield idx, 3)) (kk : WG E ad nL σ (pc + 3) lv (.ref (ad 1) :: st)) : WG E ad nL σ pc lv (.ref (ad 0) :: st) :=
  g_get X (C := RX6) (T := TX6) (N := 6) (ci := 6) (k := 1) (by omega) (fun cy => cel_0) rfl hin (by decide) rfl hlink rfl hdg kk
theorem gf_6_plans (X : Cx E ad cc nL own Ts fr lo) {idx : Nat} (hin : ∀ w ∈ wsX60, w ∈ Ts) (hlink : Cond.fieldLink own idx "PricedPairs" "plans" "LPricedPairs$Plans;" ∈ Ts) (hdg : decode cc pc = .ok (.getfield idx, 3)) (kk : WG E ad nL σ (pc + 3) lv (.ref (ad 3) :: st)) : WG E ad nL σ pc lv (.ref (ad 0) :: st) :=
  g_get X (C := RX6) (T := TX6) (N := 6) (ci := 6) (k := 2) (by omega) (fun cy => cel_0) rfl hin (by decide) rfl hlink rfl hdg kk
theorem gf_6_prices (X : Cx E ad cc nL own Ts fr lo) {idx : Nat} (hin : ∀ w ∈ wsX60, w ∈ Ts) (hlink : Cond.fieldLink own idx "PricedPairs" "prices" "LPricedPairs$Prices;" ∈ Ts) (hdg : decode cc pc = .ok (.getfield idx, 3)) (kk : WG E ad nL σ (pc + 3) lv (.ref (ad 6) :: st)) : WG E ad nL σ pc lv (.ref (ad 0) :: st) :=
  g_get X (C := RX6) (T := TX6) (N := 6) (ci := 6) (k := 3) (by omega) (fun cy => cel_0) rfl hin (by decide) rfl hlink rfl hdg kk
theorem gf_6_text (X : Cx E ad cc nL own Ts fr lo) {idx : Nat} (hin : ∀ w ∈ wsX60, w ∈ Ts) (hlink : Cond.fieldLink own idx "PricedPairs" "text" "LPricedPairs$Text;" ∈ Ts) (hdg : decode cc pc = .ok (.getfield idx, 3)) (kk : WG E ad nL σ (pc + 3) lv (.ref (ad 8) :: st)) : WG E ad nL σ pc lv (.ref (ad 0) :: st) :=
  g_get X (C := RX6) (T := TX6) (N := 6) (ci := 6) (k := 4) (by omega) (fun cy => cel_0) rfl hin (by decide) rfl hlink rfl hdg kk
theorem gf_6_reader (X : Cx E ad cc nL own Ts fr lo) {idx : Nat} (hin : ∀ w ∈ wsX60, w ∈ Ts) (hlink : Cond.fieldLink own idx "PricedPairs" "reader" "LPricedPairs$Reader;" ∈ Ts) (hdg : decode cc pc = .ok (.getfield idx, 3)) (kk : WG E ad nL σ (pc + 3) lv (.ref (ad 10) :: st)) : WG E ad nL σ pc lv (.ref (ad 0) :: st) :=
  g_get X (C := RX6) (T := TX6) (N := 6) (ci := 6) (k := 5) (by omega) (fun cy => cel_0) rfl hin (by decide) rfl hlink rfl hdg kk
end HEAP
